set_option linter.constructorNameAsVariable false in
set_option maxHeartbeats 4000000 in
set_option maxRecDepth 100000 in
theorem ml_X9_walk_L47 {p : Program} {l : Launch} {e : Env} {s : State} {m : MethodId} {args : Array Value} {below : List Frame} {meth : Method} {c : Code} {G : ky_G} {A : Nat → Prop} {mo : Nat} {cs : Nat} {N : Nat → Prop} {w : ky_MV} {f : Nat → Option Nat} {a1 : Int32} {a2 : Int32} (F : ky_F p s m meth c my_X9_walk.cls prog_10_method_38_code 5 (some .int) args) (hE : ky_E G s) (hA : ∀ q, s.heap.size ≤ q → A q) (hfr : ∀ q, A q → ky_fr G q) (hAe : A = va_A (ky_WM G mo cs w f) s.heap.size) (hIT0 : ky_IT G mo cs N f w.2.2.2.2 s.heap)  : ∀ (n9 : Nat) (k9 : Nat) (b9 : Nat) (v9 : Int32 × Int64) (tt : Int32) (hkM : k9 ≤ (jiabs a2).toInt.toNat) (hn9 : (jiabs a2).toInt.toNat - k9 < n9) (hM : (jiabs a2).toInt.toNat ≤ 40) (ho9 : ky_ok mo cs N b9) (hv9 : v9 = ky_wkit k9 (if (0 : Int32) ≤ a2 then 0 else 1) (w.2.2.2.2 a1.toNatClampNeg)) (hW : fn_X9_walk a1 a2 w = fn_X9_give a1 (ky_wkit (jiabs a2).toInt.toNat (if (0 : Int32) ≤ a2 then 0 else 1) (w.2.2.2.2 a1.toNatClampNeg)) (tt, w.2.1, w.2.2.1, w.2.2.2.1, w.2.2.2.2)) (h1 : vp_in (a1) 6) (H : Heap) (locs : List Loc), va_P G.1 kcl [(mo, .inr (5, [.int (tt), .ref cs, .int (w.2.1), .int (w.2.2.1), .int (w.2.2.2.1)])), (cs, .inl (G.2.1 3, 6, .inr (.inr (.inr (.inr (f))))))] H → va_D A [(mo, .inr (5, [.int (tt), .ref cs, .int (w.2.1), .int (w.2.2.1), .int (w.2.2.2.1)])), (cs, .inl (G.2.1 3, 6, .inr (.inr (.inr (.inr (f))))))] → va_S A s.heap H locs → ky_It G b9 v9 H → ∀ ls : Array Slot, lv_has ls 5 [(0, .ref mo), (1, .int (a1)), (2, .int (a2)), (3, .ref b9), (4, .int (nI (k9)))] → W p l e { frames := 6, cells := 120, slots := 240, locals := 127 } s m args below meth c H locs (3 * k9) (6 * k9) (MQ below (ky_Q (S := ky_MV × (Nat → Option Nat)) G A (fun v u => v = some (.int (fn_X9_walk a1 a2 w).1) ∧ u.1 = (fn_X9_walk a1 a2 w).2) (fun u => ky_WM G mo cs u.1 u.2) (fun u H => ky_IT G mo cs N u.2 u.1.2.2.2.2 H)) args s (120) (240) A) (F0 m 47 ls []) := by
  obtain ⟨hx, hb, hml, hown, hr, hlocks, hts⟩ := id F
  intro n9
  induction n9 with
  | zero => intro k9 b9 v9 tt hkM hn9 hM ho9 hv9 hW h1; exact False.elim (by omega)
  | succ n9 ih =>
      intro k9 b9 v9 tt hkM hn9 hM ho9 hv9 hW h1 H locs hP hD hS hI9 ls hl
      refine lv_iload hx hb dc_X9_walk_47 (lv_at hl 4 rfl) ?_
      refine lv_iload_n hx hb dc_X9_walk_49 rfl (lv_at hl 2 rfl) ?_
      refine ky_iabs F ⟨kw_7_23, kw_7_24, kw_1_16, kw_7_25⟩ hl.1 (Nat.le_of_ble_eq_true rfl) (Nat.le_of_ble_eq_true rfl) ⟨by show (_ : Nat) ≤ 120; omega, by show (_ : Nat) ≤ 240; omega⟩ dc_X9_walk_50 ?_
      refine lv_icmp_ge (tgt := 76) hx hb dc_X9_walk_53 (by decide) (fun c_0 => ?_) (fun c_0 => ?_)
      · skip
        have h9k := (ky_wk1 (by omega)).mp c_0
        have ek : k9 = (jiabs a2).toInt.toNat := by omega
        have hIT := hIT0.ro hAe hS
        refine lv_aload_n hx hb dc_X9_walk_76 rfl (lv_at hl 0 rfl) ?_
        refine lv_iload_n hx hb dc_X9_walk_77 rfl (lv_at hl 1 rfl) ?_
        refine lv_aload_n hx hb dc_X9_walk_78 rfl (lv_at hl 3 rfl) ?_
        refine ky_cVh (As := [.int (a1), .ref b9]) (wr := []) F (hE.at hfr hS) hfr (mt_X9_give l G mo cs N (tt, w.2.1, w.2.2.1, w.2.2.2.1, w.2.2.2.2) (f) (b9) (v9) ho9 (a1) H.size h1) kv_X9_63 ⟨⟨rfl, rfl⟩, by decide, by decide⟩ rfl hl.1 rfl (Nat.le_of_ble_eq_true rfl) ⟨by show (_ : Nat) ≤ 120; omega, by show (_ : Nat) ≤ 240; omega⟩ (va_recv hE.1 hP (ci := 5) (q0 := 0) rfl rfl) ⟨hIT, hI9⟩ hP hD hS hA [0, 1] [] rfl rfl (by decide) (by decide) (by decide) dc_X9_walk_79 ?_
        rintro v8 ⟨w8, f8⟩ H locs ⟨rfl, hw8⟩ hP hD hS hIT9 hz hk9
        have hf9 : fn_X9_walk a1 a2 w = fn_X9_give a1 v9 (tt, w.2.1, w.2.2.1, w.2.2.2.1, w.2.2.2.2) := by rw [hW, hv9, ek]
        refine W.widen (k := 120) (n := 240) (by omega) (by omega) ?_
        exact W.iret (v := (fn_X9_give a1 v9 (tt, w.2.1, w.2.2.1, w.2.2.2.1, w.2.2.2.2)).1) hx hb hr (fun t ht hW9 => ⟨⟨_, (w8, f8), rfl, ⟨by rw [hf9], by rw [hf9]; exact hw8⟩, by rw [ht]; exact hP, hD, by rw [ht]; exact hIT9⟩, hS.F ht⟩) hS.2.2 dc_X9_walk_82
      · skip
        have h9k : ¬ (jiabs a2).toInt.toNat ≤ k9 := fun z => c_0 ((ky_wk1 (by omega)).mpr z)
        have hIT := hIT0.ro hAe hS
        have hm_9 := (hP 0 _ rfl).lt
        have hc_9 := (hP 1 _ rfl).lt
        refine lv_aload_n hx hb dc_X9_walk_56 rfl (lv_at hl 3 rfl) ?_
        refine lv_iload_n hx hb dc_X9_walk_57 rfl (lv_at hl 2 rfl) ?_
        refine lv_if_ge (tgt := 65) hx hb dc_X9_walk_58 (by decide) (fun c_1 => ?_) (fun c_1 => ?_)
        · skip
          refine lv_iconst (v := 0) hx hb dc_X9_walk_65 (by decide) ?_
          have hs_2 := hS.1
          refine ky_cVh (As := [.int ((0 : Int32))]) (wr := [(mo, .inr (5, [.int (tt), .ref cs, .int (w.2.1), .int (w.2.2.1), .int (w.2.2.2.1)])), (cs, .inl (G.2.1 3, 6, .inr (.inr (.inr (.inr (f))))))]) F (hE.at hfr hS) hfr (mt_X8_next l G (b9) v9 ((0 : Int32)) H.size) kv_X9_130 ⟨⟨rfl, rfl⟩, by decide, by decide⟩ rfl hl.1 rfl (Nat.le_of_ble_eq_true rfl) ⟨by show (_ : Nat) ≤ 120; omega, by show (_ : Nat) ≤ 240; omega⟩ (va_recv hE.1 hI9 (ci := 4) (q0 := 0) rfl rfl) hI9 hP hD hS hA [] [0, 1] rfl rfl (by decide) (by decide) (by decide) dc_X9_walk_66 ?_
          rintro v9 q_2 H locs rfl hP hD hS ⟨hI_2, hd_2⟩ hz hk9
          have hP : va_P G.1 kcl [(mo, .inr (5, [.int (tt), .ref cs, .int (w.2.1), .int (w.2.2.1), .int (w.2.2.2.1)])), (cs, .inl (G.2.1 3, 6, .inr (.inr (.inr (.inr (f))))))] H := hP
          have hD : va_D A [(mo, .inr (5, [.int (tt), .ref cs, .int (w.2.1), .int (w.2.2.1), .int (w.2.2.2.1)])), (cs, .inl (G.2.1 3, 6, .inr (.inr (.inr (.inr (f))))))] := hD
          have hI9 := hI9.fr hk9
          refine W.widen (k := 3 * k9 + 3) (n := 6 * k9 + 6) (Nat.le_refl _) (Nat.le_refl _) ?_
          refine lv_astore_n (lv' := [(3, .ref q_2), (0, .ref mo), (1, .int (a1)), (2, .int (a2)), (4, .int (nI (k9)))]) hx hb dc_X9_walk_69 rfl hl (by decide) rfl (fun ls hl => ?_)
          refine lv_iinc (v := nI (k9 + 1)) (lv' := [(4, .int (nI (k9 + 1))), (3, .ref q_2), (0, .ref mo), (1, .int (a1)), (2, .int (a2))]) hx hb dc_X9_walk_70 hl (k := 4) rfl (nI_1 _) (by decide) rfl (fun ls hl => ?_)
          refine lv_goto (tgt := 47) hx hb dc_X9_walk_73 (by decide) ?_
          have hv8 : (fn_X8_next ((0 : Int32)) v9) = ky_wkit (k9 + 1) (if (0 : Int32) ≤ a2 then 0 else 1) (w.2.2.2.2 a1.toNatClampNeg) := by rw [ky_wkit, ← hv9, if_pos c_1]
          refine W.widen (k := 3 * (k9 + 1)) (n := 6 * (k9 + 1)) (by first | exact Nat.le_refl _ | omega | exact Nat.zero_le _) (by first | exact Nat.le_refl _ | omega | exact Nat.zero_le _) ?_
          exact ih (k9 + 1) q_2 (fn_X8_next ((0 : Int32)) v9) tt (by omega) (by omega) hM (ho9.or hm_9 hc_9 hIT.1 hd_2) hv8 hW h1 _ _ (hP.sub (ws' := [(mo, .inr (5, [.int (tt), .ref cs, .int (w.2.1), .int (w.2.2.1), .int (w.2.2.2.1)])), (cs, .inl (G.2.1 3, 6, .inr (.inr (.inr (.inr (f))))))]) [0, 1] rfl) (hD.sub (ws' := [(mo, .inr (5, [.int (tt), .ref cs, .int (w.2.1), .int (w.2.2.1), .int (w.2.2.2.1)])), (cs, .inl (G.2.1 3, 6, .inr (.inr (.inr (.inr (f))))))]) [0, 1] (by decide) rfl) hS hI_2 _ (lv_sub hl [2, 3, 4, 1, 0] rfl)
        · skip
          refine lv_iconst (v := 1) hx hb dc_X9_walk_61 (by decide) ?_
          refine lv_goto (tgt := 66) hx hb dc_X9_walk_62 (by decide) ?_
          have hs_2 := hS.1
          refine ky_cVh (As := [.int ((1 : Int32))]) (wr := [(mo, .inr (5, [.int (tt), .ref cs, .int (w.2.1), .int (w.2.2.1), .int (w.2.2.2.1)])), (cs, .inl (G.2.1 3, 6, .inr (.inr (.inr (.inr (f))))))]) F (hE.at hfr hS) hfr (mt_X8_next l G (b9) v9 ((1 : Int32)) H.size) kv_X9_130 ⟨⟨rfl, rfl⟩, by decide, by decide⟩ rfl hl.1 rfl (Nat.le_of_ble_eq_true rfl) ⟨by show (_ : Nat) ≤ 120; omega, by show (_ : Nat) ≤ 240; omega⟩ (va_recv hE.1 hI9 (ci := 4) (q0 := 0) rfl rfl) hI9 hP hD hS hA [] [0, 1] rfl rfl (by decide) (by decide) (by decide) dc_X9_walk_66 ?_
          rintro v9 q_2 H locs rfl hP hD hS ⟨hI_2, hd_2⟩ hz hk9
          have hP : va_P G.1 kcl [(mo, .inr (5, [.int (tt), .ref cs, .int (w.2.1), .int (w.2.2.1), .int (w.2.2.2.1)])), (cs, .inl (G.2.1 3, 6, .inr (.inr (.inr (.inr (f))))))] H := hP
          have hD : va_D A [(mo, .inr (5, [.int (tt), .ref cs, .int (w.2.1), .int (w.2.2.1), .int (w.2.2.2.1)])), (cs, .inl (G.2.1 3, 6, .inr (.inr (.inr (.inr (f))))))] := hD
          have hI9 := hI9.fr hk9
          refine W.widen (k := 3 * k9 + 3) (n := 6 * k9 + 6) (Nat.le_refl _) (Nat.le_refl _) ?_
          refine lv_astore_n (lv' := [(3, .ref q_2), (0, .ref mo), (1, .int (a1)), (2, .int (a2)), (4, .int (nI (k9)))]) hx hb dc_X9_walk_69 rfl hl (by decide) rfl (fun ls hl => ?_)
          refine lv_iinc (v := nI (k9 + 1)) (lv' := [(4, .int (nI (k9 + 1))), (3, .ref q_2), (0, .ref mo), (1, .int (a1)), (2, .int (a2))]) hx hb dc_X9_walk_70 hl (k := 4) rfl (nI_1 _) (by decide) rfl (fun ls hl => ?_)
          refine lv_goto (tgt := 47) hx hb dc_X9_walk_73 (by decide) ?_
          have hv8 : (fn_X8_next ((1 : Int32)) v9) = ky_wkit (k9 + 1) (if (0 : Int32) ≤ a2 then 0 else 1) (w.2.2.2.2 a1.toNatClampNeg) := by rw [ky_wkit, ← hv9, if_neg c_1]
          refine W.widen (k := 3 * (k9 + 1)) (n := 6 * (k9 + 1)) (by first | exact Nat.le_refl _ | omega | exact Nat.zero_le _) (by first | exact Nat.le_refl _ | omega | exact Nat.zero_le _) ?_
          exact ih (k9 + 1) q_2 (fn_X8_next ((1 : Int32)) v9) tt (by omega) (by omega) hM (ho9.or hm_9 hc_9 hIT.1 hd_2) hv8 hW h1 _ _ (hP.sub (ws' := [(mo, .inr (5, [.int (tt), .ref cs, .int (w.2.1), .int (w.2.2.1), .int (w.2.2.2.1)])), (cs, .inl (G.2.1 3, 6, .inr (.inr (.inr (.inr (f))))))]) [0, 1] rfl) (hD.sub (ws' := [(mo, .inr (5, [.int (tt), .ref cs, .int (w.2.1), .int (w.2.2.1), .int (w.2.2.2.1)])), (cs, .inl (G.2.1 3, 6, .inr (.inr (.inr (.inr (f))))))]) [0, 1] (by decide) rfl) hS hI_2 _ (lv_sub hl [2, 3, 4, 1, 0] rfl)
set_option linter.constructorNameAsVariable false in
set_option maxHeartbeats 4000000 in
set_option maxRecDepth 100000 in
theorem mt_X9_walk (l : Launch) (G : ky_G) (mo : Nat) (cs : Nat) (N : Nat → Prop) (w : ky_MV) (f : Nat → Option Nat) (a1 : Int32) (a2 : Int32) (sz : Nat)  : Met l my_X9_walk (.code my_X9_walk prog_10_method_38_code 5 (some .int) :: ky_B) { frames := 6, cells := 120, slots := 240, locals := 127 } (ky_P G [.ref mo, .int (a1), .int (a2)] (ky_WM G mo cs w f) sz (fun H => ky_IT G mo cs N f w.2.2.2.2 H)) (ky_Q (S := ky_MV × (Nat → Option Nat)) G (va_A (ky_WM G mo cs w f) sz) (fun v u => v = some (.int (fn_X9_walk a1 a2 w).1) ∧ u.1 = (fn_X9_walk a1 a2 w).2) (fun u => ky_WM G mo cs u.1 u.2) (fun u H => ky_IT G mo cs N u.2 u.1.2.2.2.2 H)) (120) (240) (va_A (ky_WM G mo cs w f) sz) := by
  refine ky_start (by decide) (Nat.le_of_ble_eq_true rfl) (fun p e s m below meth c F hE A hAe hsz hA hfr hP hD hS hX ls hl => ?_)
  obtain ⟨hx, hb, hml, hown, hr, hlocks, hts⟩ := id F
  have hl : lv_has ls 5 [(0, .ref mo), (1, .int (a1)), (2, .int (a2))] := hl
  have hP : va_P G.1 kcl [(mo, .inr (5, [.int (w.1), .ref cs, .int (w.2.1), .int (w.2.2.1), .int (w.2.2.2.1)])), (cs, .inl (G.2.1 3, 6, .inr (.inr (.inr (.inr (f))))))] s.heap := hP
  have hD : va_D A [(mo, .inr (5, [.int (w.1), .ref cs, .int (w.2.1), .int (w.2.2.1), .int (w.2.2.2.1)])), (cs, .inl (G.2.1 3, 6, .inr (.inr (.inr (.inr (f))))))] := hD
  have hIT0 := hX
  refine lv_aload_n hx hb dc_X9_walk_0 rfl (lv_at hl 0 rfl) ?_
  refine lv_iload_n hx hb dc_X9_walk_1 rfl (lv_at hl 1 rfl) ?_
  refine ky_cS0 (As := [.int (a1)]) F (mt_X9_isNo l (a1)) ks_X9_51 ⟨⟨rfl, rfl⟩, by decide, by decide⟩ rfl hl.1 rfl (Nat.le_of_ble_eq_true rfl) ⟨by show (_ : Nat) ≤ 120; omega, by show (_ : Nat) ≤ 240; omega⟩ dc_X9_walk_2 ?_
  refine ky_cVh (As := [.int (fn_X9_isNo (a1))]) (wr := []) F (hE.at hfr hS) hfr (mt_X9_startJ l G (mo) (cs) ((w.1, w.2.1, w.2.2.1, w.2.2.2.1)) (f) (fn_X9_isNo (a1)) s.heap.size ) kv_X9_55 ⟨⟨rfl, rfl⟩, by decide, by decide⟩ rfl hl.1 rfl (Nat.le_of_ble_eq_true rfl) ⟨by show (_ : Nat) ≤ 120; omega, by show (_ : Nat) ≤ 240; omega⟩ (va_recv hE.1 hP (ci := 5) (q0 := 0) rfl rfl) trivial hP hD hS hA [0, 1] [] rfl rfl (by decide) (by decide) (by decide) dc_X9_walk_5 ?_
  rintro v9 u9 H locs ⟨rfl, hu9⟩ hP hD hS - hz hk9
  have hu9 := hu9.symm
  subst hu9
  obtain ⟨j_1, hj_1⟩ : ∃ j9, j9 = jst (fn_X9_isNo (a1)) := ⟨_, rfl⟩
  rw [← hj_1] at hP hD ⊢
  try rw [← hj_1] at hw
  have hP : va_P G.1 kcl [(mo, .inr (5, [.int (j_1), .ref cs, .int (w.2.1), .int (w.2.2.1), .int (w.2.2.2.1)])), (cs, .inl (G.2.1 3, 6, .inr (.inr (.inr (.inr (f))))))] H := hP
  have hD : va_D A [(mo, .inr (5, [.int (j_1), .ref cs, .int (w.2.1), .int (w.2.2.1), .int (w.2.2.2.1)])), (cs, .inl (G.2.1 3, 6, .inr (.inr (.inr (.inr (f))))))] := hD
  refine W.widen (k := 0) (n := 0) (Nat.le_refl _) (Nat.le_refl _) ?_
  refine lv_if_ne (tgt := 35) hx hb dc_X9_walk_8 (by decide) (fun c_2 => ?_) (fun c_2 => ?_)
  · skip
    refine lv_iconst (v := 0) hx hb dc_X9_walk_35 (by decide) ?_
    have hW0 : fn_X9_walk a1 a2 w = (0, (j_1, w.2.1, w.2.2.1, w.2.2.2.1, w.2.2.2.2)) := by unfold fn_X9_walk; rw [if_neg (fun z => c_2 (hj_1.trans z)), ← hj_1]
    have hP9 := hP.sub (ws' := [(mo, .inr (5, [.int (j_1), .ref cs, .int (w.2.1), .int (w.2.2.1), .int (w.2.2.2.1)])), (cs, .inl (G.2.1 3, 6, .inr (.inr (.inr (.inr (f))))))]) [0, 1] rfl
    have hD9 := hD.sub (ws' := [(mo, .inr (5, [.int (j_1), .ref cs, .int (w.2.1), .int (w.2.2.1), .int (w.2.2.2.1)])), (cs, .inl (G.2.1 3, 6, .inr (.inr (.inr (.inr (f))))))]) [0, 1] (by decide) rfl
    refine W.widen (k := 120) (n := 240) (Nat.zero_le _) (Nat.zero_le _) ?_
    exact W.iret (v := (0 : Int32)) hx hb hr (fun t ht hW => ⟨⟨_, ((j_1, w.2.1, w.2.2.1, w.2.2.2.1, w.2.2.2.2), f), rfl, ⟨by rw [hW0], by rw [hW0]⟩, by rw [ht]; exact hP9, hD9, by rw [ht]; exact hIT0.ro hAe hS⟩, hS.F ht⟩) hS.2.2 dc_X9_walk_36
  · skip
    refine lv_aload_n hx hb dc_X9_walk_11 rfl (lv_at hl 0 rfl) ?_
    refine lv_iload_n hx hb dc_X9_walk_12 rfl (lv_at hl 2 rfl) ?_
    refine lv_bipush (v := (-40)) hx hb dc_X9_walk_13 (by decide) ?_
    refine lv_bipush (v := 40) hx hb dc_X9_walk_15 (by decide) ?_
    refine ky_cS0 (As := [.int (a2), .int ((-40 : Int32)), .int ((40 : Int32))]) F (mt_X9_isOf l (a2) ((-40 : Int32)) ((40 : Int32))) ks_X9_40 ⟨⟨rfl, rfl⟩, by decide, by decide⟩ rfl hl.1 rfl (Nat.le_of_ble_eq_true rfl) ⟨by show (_ : Nat) ≤ 120; omega, by show (_ : Nat) ≤ 240; omega⟩ dc_X9_walk_17 ?_
    refine lv_if_ne (tgt := 27) hx hb dc_X9_walk_20 (by decide) (fun c_3 => ?_) (fun c_3 => ?_)
    · skip
      refine lv_iconst (v := 0) hx hb dc_X9_walk_27 (by decide) ?_
      refine lv_iconst (v := 2) hx hb dc_X9_walk_28 (by decide) ?_
      refine ky_cVh (As := [.int ((0 : Int32)), .int ((2 : Int32))]) (wr := []) F (hE.at hfr hS) hfr (mt_X9_refuseJ l G (mo) (cs) ((j_1, w.2.1, w.2.2.1, w.2.2.2.1)) (f) ((0 : Int32)) ((2 : Int32)) H.size ) kv_X9_36 ⟨⟨rfl, rfl⟩, by decide, by decide⟩ rfl hl.1 rfl (Nat.le_of_ble_eq_true rfl) ⟨by show (_ : Nat) ≤ 120; omega, by show (_ : Nat) ≤ 240; omega⟩ (va_recv hE.1 hP (ci := 5) (q0 := 0) rfl rfl) trivial hP hD hS hA [0, 1] [] rfl rfl (by decide) (by decide) (by decide) dc_X9_walk_29 ?_
      rintro v9 u9 H locs ⟨rfl, hu9⟩ hP hD hS - hz hk9
      have hu9 := hu9.symm
      subst hu9
      obtain ⟨j_5, hj_5⟩ : ∃ j9, j9 = jrt ((0 : Int32)) ((2 : Int32)) (j_1) := ⟨_, rfl⟩
      rw [← hj_5] at hP hD ⊢
      try rw [← hj_5] at hw
      have hP : va_P G.1 kcl [(mo, .inr (5, [.int (j_5), .ref cs, .int (w.2.1), .int (w.2.2.1), .int (w.2.2.2.1)])), (cs, .inl (G.2.1 3, 6, .inr (.inr (.inr (.inr (f))))))] H := hP
      have hD : va_D A [(mo, .inr (5, [.int (j_5), .ref cs, .int (w.2.1), .int (w.2.2.1), .int (w.2.2.2.1)])), (cs, .inl (G.2.1 3, 6, .inr (.inr (.inr (.inr (f))))))] := hD
      refine W.widen (k := 0) (n := 0) (Nat.le_refl _) (Nat.le_refl _) ?_
      refine lv_if_eq (tgt := 37) hx hb dc_X9_walk_32 (by decide) (fun c_6 => ?_) (fun c_6 => ?_)
      · skip
        refine lv_aload_n hx hb dc_X9_walk_37 rfl (lv_at hl 0 rfl) ?_
        refine va_get (D := G.1) (ci := 5) (v := .ref cs) (C := RX9) (T := TX9) (N := 5) hx hb hts ki_X9 hown hE.1 hP 0 rfl rfl 1 (by decide) (hts _ kw_6_20) (fun _ h9 => h9) rfl dc_X9_walk_38 ?_
        refine lv_iload_n hx hb dc_X9_walk_41 rfl (lv_at hl 1 rfl) ?_
        have hv_7 : vp_in (a1) 6 := (lr_start (hj_1.symm.trans c_2))
        have hIT := hIT0.ro hAe hS
        refine va_aldq hx hb hE.1 hP 1 3 rfl rfl hv_7 dc_X9_walk_42 ?_
        obtain ⟨b_7, hb_7, hI_7, ho_7⟩ := hIT.2 _ (ky_i6 hv_7)
        rw [ky_rf hb_7]
        have hX_7 : ky_It G b_7 ((w.2.2.2.2) (a1).toNatClampNeg) s.heap := by obtain ⟨b9, e9, i9, -⟩ := hIT0.2 _ (ky_i6 hv_7); have z9 : b9 = b_7 := Option.some.inj (e9.symm.trans hb_7); exact z9 ▸ i9
        refine lv_astore_n (lv' := [(3, .ref b_7), (0, .ref mo), (1, .int (a1)), (2, .int (a2))]) hx hb dc_X9_walk_43 rfl hl (by decide) rfl (fun ls hl => ?_)
        refine lv_iconst (v := 0) hx hb dc_X9_walk_44 (by decide) ?_
        refine lv_istore (lv' := [(4, .int ((0 : Int32))), (3, .ref b_7), (0, .ref mo), (1, .int (a1)), (2, .int (a2))]) hx hb dc_X9_walk_45 hl (by decide) rfl (fun ls hl => ?_)
        have hI_7 := ky_ro2 hX_7 ho_7 hAe hS
        have hW : fn_X9_walk a1 a2 w = fn_X9_give a1 (ky_wkit (jiabs a2).toInt.toNat (if (0 : Int32) ≤ a2 then 0 else 1) (w.2.2.2.2 a1.toNatClampNeg)) (j_5, w.2.1, w.2.2.1, w.2.2.2.1, w.2.2.2.2) := by unfold fn_X9_walk; rw [if_pos (hj_1.symm.trans c_2), if_neg c_3, ← hj_1, ← hj_5, if_pos c_6]
        have hM := ky_wk40 c_3
        refine W.widen (k := 3 * 0) (n := 6 * 0) (by first | exact Nat.le_refl _ | omega | exact Nat.zero_le _) (by first | exact Nat.le_refl _ | omega | exact Nat.zero_le _) ?_
        exact ml_X9_walk_L47 (mo := mo) (cs := cs) (N := N) (w := w) (f := f) (a1 := a1) (a2 := a2) F hE hA hfr hAe hIT0  (41) 0 b_7 (w.2.2.2.2 a1.toNatClampNeg) j_5 (Nat.zero_le _) (by omega) hM ho_7 rfl hW (lr_start (hj_1.symm.trans c_2)) _ _ (hP.sub (ws' := [(mo, .inr (5, [.int (j_5), .ref cs, .int (w.2.1), .int (w.2.2.1), .int (w.2.2.2.1)])), (cs, .inl (G.2.1 3, 6, .inr (.inr (.inr (.inr (f))))))]) [0, 1] rfl) (hD.sub (ws' := [(mo, .inr (5, [.int (j_5), .ref cs, .int (w.2.1), .int (w.2.2.1), .int (w.2.2.2.1)])), (cs, .inl (G.2.1 3, 6, .inr (.inr (.inr (.inr (f))))))]) [0, 1] (by decide) rfl) hS hI_7 _ (lv_sub hl [2, 3, 4, 1, 0] rfl)
      · skip
        refine lv_iconst (v := 0) hx hb dc_X9_walk_35 (by decide) ?_
        have hW0 : fn_X9_walk a1 a2 w = (0, (j_5, w.2.1, w.2.2.1, w.2.2.2.1, w.2.2.2.2)) := by unfold fn_X9_walk; rw [if_pos (hj_1.symm.trans c_2), if_neg c_3, ← hj_1, ← hj_5, if_neg c_6]
        have hP9 := hP.sub (ws' := [(mo, .inr (5, [.int (j_5), .ref cs, .int (w.2.1), .int (w.2.2.1), .int (w.2.2.2.1)])), (cs, .inl (G.2.1 3, 6, .inr (.inr (.inr (.inr (f))))))]) [0, 1] rfl
        have hD9 := hD.sub (ws' := [(mo, .inr (5, [.int (j_5), .ref cs, .int (w.2.1), .int (w.2.2.1), .int (w.2.2.2.1)])), (cs, .inl (G.2.1 3, 6, .inr (.inr (.inr (.inr (f))))))]) [0, 1] (by decide) rfl
        refine W.widen (k := 120) (n := 240) (Nat.zero_le _) (Nat.zero_le _) ?_
        exact W.iret (v := (0 : Int32)) hx hb hr (fun t ht hW => ⟨⟨_, ((j_5, w.2.1, w.2.2.1, w.2.2.2.1, w.2.2.2.2), f), rfl, ⟨by rw [hW0], by rw [hW0]⟩, by rw [ht]; exact hP9, hD9, by rw [ht]; exact hIT0.ro hAe hS⟩, hS.F ht⟩) hS.2.2 dc_X9_walk_36
    · skip
      refine lv_iconst (v := 1) hx hb dc_X9_walk_23 (by decide) ?_
      refine lv_goto (tgt := 28) hx hb dc_X9_walk_24 (by decide) ?_
      refine lv_iconst (v := 2) hx hb dc_X9_walk_28 (by decide) ?_
      refine ky_cVh (As := [.int ((1 : Int32)), .int ((2 : Int32))]) (wr := []) F (hE.at hfr hS) hfr (mt_X9_refuseJ l G (mo) (cs) ((j_1, w.2.1, w.2.2.1, w.2.2.2.1)) (f) ((1 : Int32)) ((2 : Int32)) H.size ) kv_X9_36 ⟨⟨rfl, rfl⟩, by decide, by decide⟩ rfl hl.1 rfl (Nat.le_of_ble_eq_true rfl) ⟨by show (_ : Nat) ≤ 120; omega, by show (_ : Nat) ≤ 240; omega⟩ (va_recv hE.1 hP (ci := 5) (q0 := 0) rfl rfl) trivial hP hD hS hA [0, 1] [] rfl rfl (by decide) (by decide) (by decide) dc_X9_walk_29 ?_
      rintro v9 u9 H locs ⟨rfl, hu9⟩ hP hD hS - hz hk9
      have hu9 := hu9.symm
      subst hu9
      obtain ⟨j_5, hj_5⟩ : ∃ j9, j9 = jrt ((1 : Int32)) ((2 : Int32)) (j_1) := ⟨_, rfl⟩
      rw [← hj_5] at hP hD ⊢
      try rw [← hj_5] at hw
      have hP : va_P G.1 kcl [(mo, .inr (5, [.int (j_5), .ref cs, .int (w.2.1), .int (w.2.2.1), .int (w.2.2.2.1)])), (cs, .inl (G.2.1 3, 6, .inr (.inr (.inr (.inr (f))))))] H := hP
      have hD : va_D A [(mo, .inr (5, [.int (j_5), .ref cs, .int (w.2.1), .int (w.2.2.1), .int (w.2.2.2.1)])), (cs, .inl (G.2.1 3, 6, .inr (.inr (.inr (.inr (f))))))] := hD
      refine W.widen (k := 0) (n := 0) (Nat.le_refl _) (Nat.le_refl _) ?_
      refine lv_if_eq (tgt := 37) hx hb dc_X9_walk_32 (by decide) (fun c_6 => ?_) (fun c_6 => ?_)
      · skip
        refine lv_aload_n hx hb dc_X9_walk_37 rfl (lv_at hl 0 rfl) ?_
        refine va_get (D := G.1) (ci := 5) (v := .ref cs) (C := RX9) (T := TX9) (N := 5) hx hb hts ki_X9 hown hE.1 hP 0 rfl rfl 1 (by decide) (hts _ kw_6_20) (fun _ h9 => h9) rfl dc_X9_walk_38 ?_
        refine lv_iload_n hx hb dc_X9_walk_41 rfl (lv_at hl 1 rfl) ?_
        have hv_7 : vp_in (a1) 6 := (lr_start (hj_1.symm.trans c_2))
        have hIT := hIT0.ro hAe hS
        refine va_aldq hx hb hE.1 hP 1 3 rfl rfl hv_7 dc_X9_walk_42 ?_
        obtain ⟨b_7, hb_7, hI_7, ho_7⟩ := hIT.2 _ (ky_i6 hv_7)
        rw [ky_rf hb_7]
        have hX_7 : ky_It G b_7 ((w.2.2.2.2) (a1).toNatClampNeg) s.heap := by obtain ⟨b9, e9, i9, -⟩ := hIT0.2 _ (ky_i6 hv_7); have z9 : b9 = b_7 := Option.some.inj (e9.symm.trans hb_7); exact z9 ▸ i9
        refine lv_astore_n (lv' := [(3, .ref b_7), (0, .ref mo), (1, .int (a1)), (2, .int (a2))]) hx hb dc_X9_walk_43 rfl hl (by decide) rfl (fun ls hl => ?_)
        refine lv_iconst (v := 0) hx hb dc_X9_walk_44 (by decide) ?_
        refine lv_istore (lv' := [(4, .int ((0 : Int32))), (3, .ref b_7), (0, .ref mo), (1, .int (a1)), (2, .int (a2))]) hx hb dc_X9_walk_45 hl (by decide) rfl (fun ls hl => ?_)
        exfalso
        exact ky_wkno c_2 hj_5 c_6
      · skip
        refine lv_iconst (v := 0) hx hb dc_X9_walk_35 (by decide) ?_
        have hW0 : fn_X9_walk a1 a2 w = (0, (j_5, w.2.1, w.2.2.1, w.2.2.2.1, w.2.2.2.2)) := by unfold fn_X9_walk; rw [if_pos (hj_1.symm.trans c_2), if_pos c_3, ← hj_1, ← hj_5, if_neg c_6]
        have hP9 := hP.sub (ws' := [(mo, .inr (5, [.int (j_5), .ref cs, .int (w.2.1), .int (w.2.2.1), .int (w.2.2.2.1)])), (cs, .inl (G.2.1 3, 6, .inr (.inr (.inr (.inr (f))))))]) [0, 1] rfl
        have hD9 := hD.sub (ws' := [(mo, .inr (5, [.int (j_5), .ref cs, .int (w.2.1), .int (w.2.2.1), .int (w.2.2.2.1)])), (cs, .inl (G.2.1 3, 6, .inr (.inr (.inr (.inr (f))))))]) [0, 1] (by decide) rfl
        refine W.widen (k := 120) (n := 240) (Nat.zero_le _) (Nat.zero_le _) ?_
        exact W.iret (v := (0 : Int32)) hx hb hr (fun t ht hW => ⟨⟨_, ((j_5, w.2.1, w.2.2.1, w.2.2.2.1, w.2.2.2.2), f), rfl, ⟨by rw [hW0], by rw [hW0]⟩, by rw [ht]; exact hP9, hD9, by rw [ht]; exact hIT0.ro hAe hS⟩, hS.F ht⟩) hS.2.2 dc_X9_walk_36
