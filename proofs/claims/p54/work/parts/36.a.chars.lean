set_option linter.constructorNameAsVariable false in
set_option maxHeartbeats 4000000 in
set_option maxRecDepth 100000 in
theorem ml_J6_getChars_ba4f3_L22 {p : Program} {l : Launch} {e : Env} {s : State} {m : MethodId} {args : Array Value} {below : List Frame} {meth : Method} {c : Code} {G : ky_G} {A : Nat → Prop} {da : Nat} {mm : Nat} {ix : Nat} {f : Nat → Int32} {a0 : Int32} (F : ky_F p s m meth c my_J6_getChars_ba4f3.cls prog_18_method_12_code 7 (some .int) args) (hE : ky_E G s) (hA : ∀ q, s.heap.size ≤ q → A q) (hfr : ∀ q, A q → ky_fr G q)  (hmm : mm < 2 ^ 20) : ∀ (n9 : Nat) (x : Int32) (v : Nat) (cc : Nat) (fx : Nat → Int32) (fl : Int32) (hv : x.toInt = -(v : Int)) (hn : ky_d v ≤ n9) (hc : ky_d v + (if fl = 0 then 0 else 1) ≤ cc) (hcm : cc ≤ mm) (hfx : ky_fit fx) (H : Heap) (locs : List Loc), va_P G.1 kcl [(da, .inl (G.2.1 0, mm, .inl (fx)))] H → va_D A [(da, .inl (G.2.1 0, mm, .inl (fx)))] → va_S A s.heap H locs →  ∀ ls : Array Slot, lv_has ls 7 [(0, .int (x)), (2, .ref da), (5, .int (nI (cc))), (6, .int (fl))] → W p l e { frames := 0, cells := 0, slots := 0, locals := 0 } s m args below meth c H locs (0) (0) (MQ below (ky_Q (S := Nat → Int32) G A (fun v u => (∃ z, v = some (.int z)) ∧ ky_fit u) (fun u => [(da, .inl (G.2.1 0, mm, .inl u))]) (fun _ _ => True)) args s (0) (0) A) (F0 m 22 ls []) := by
  obtain ⟨hx, hb, hml, hown, hr, hlocks, hts⟩ := id F
  intro n9
  induction n9 with
  | zero => intro x v cc fx fl hv hn hc hcm hfx; exact False.elim (by have := ky_d1 v; omega)
  | succ n9 ih =>
      intro x v cc fx fl hv hn hc hcm hfx H locs hP hD hS  ls hl
      refine lv_iload_n hx hb dc_J6_getChars_ba4f3_22 rfl (lv_at hl 0 rfl) ?_
      refine lv_bipush (v := (-100)) hx hb dc_J6_getChars_ba4f3_23 (by decide) ?_
      refine lv_icmp_gt (tgt := 72) hx hb dc_J6_getChars_ba4f3_25 (by decide) (fun c_0 => ?_) (fun c_0 => ?_)
      · skip
        have h100 := ky_lt100I hv c_0
        have hd8 := ky_d1 v
        have hq9 := ky_neg100I hv h100
        refine lv_aload_n hx hb dc_J6_getChars_ba4f3_72 rfl (lv_at hl 1 rfl) ?_
        refine lv_iinc (v := nI (cc - 1)) (lv' := [(5, .int (nI (cc - 1))), (0, .int (x)), (2, .ref da), (6, .int (fl))]) hx hb dc_J6_getChars_ba4f3_73 hl (k := 2) rfl (ky_pm1 (by omega)) (by decide) rfl (fun ls hl => ?_)
        refine lv_iload hx hb dc_J6_getChars_ba4f3_76 (lv_at hl 0 rfl) ?_
        obtain ⟨t_1, hZ_1, hT_1⟩ := kq_DO hE hfr
        refine va_gets hx hb hZ_1 hS hown (hts _ kw_2_55) (fun _ h9 => h9) dc_J6_getChars_ba4f3_78 ?_
        refine lv_iload_n hx hb dc_J6_getChars_ba4f3_81 rfl (lv_at hl 1 rfl) ?_
        refine lv_ineg hx hb dc_J6_getChars_ba4f3_82 ?_
        refine va_tb hx hb hT_1 hS hq9 (v := .int (kf_DO (-(x)).toNatClampNeg)) rfl dc_J6_getChars_ba4f3_83 ?_
        refine va_bast hx hb hE.1 hP hD hS 0 0 rfl rfl (vp_in_nI (by omega) (by omega)) dc_J6_getChars_ba4f3_84 (fun H locs hP hD hS => ?_)
        have hP : va_P G.1 kcl [(da, .inl (G.2.1 0, mm, .inl (upd (fx) (nI (cc - 1)).toNatClampNeg (vp_nar .byte (kf_DO (-(x)).toNatClampNeg)))))] H := hP
        have hD : va_D A [(da, .inl (G.2.1 0, mm, .inl (upd (fx) (nI (cc - 1)).toNatClampNeg (vp_nar .byte (kf_DO (-(x)).toNatClampNeg)))))] := hD
        refine lv_iload_n hx hb dc_J6_getChars_ba4f3_85 rfl (lv_at hl 1 rfl) ?_
        refine lv_bipush (v := (-9)) hx hb dc_J6_getChars_ba4f3_86 (by decide) ?_
        refine lv_icmp_ge (tgt := 104) hx hb dc_J6_getChars_ba4f3_88 (by decide) (fun c_2 => ?_) (fun c_2 => ?_)
        · skip
          refine lv_iload hx hb dc_J6_getChars_ba4f3_104 (lv_at hl 3 rfl) ?_
          refine lv_if_eq (tgt := 118) hx hb dc_J6_getChars_ba4f3_106 (by decide) (fun c_3 => ?_) (fun c_3 => ?_)
          · skip
            refine lv_iload hx hb dc_J6_getChars_ba4f3_118 (lv_at hl 0 rfl) ?_
            have hP9 := hP.sub (ws' := [(da, .inl (G.2.1 0, mm, .inl (upd (fx) (nI (cc - 1)).toNatClampNeg (vp_nar .byte (kf_DO (-(x)).toNatClampNeg)))))]) [0] rfl
            have hD9 := hD.sub (ws' := [(da, .inl (G.2.1 0, mm, .inl (upd (fx) (nI (cc - 1)).toNatClampNeg (vp_nar .byte (kf_DO (-(x)).toNatClampNeg)))))]) [0] (by decide) rfl
            refine W.widen (k := 0) (n := 0) (Nat.le_of_ble_eq_true rfl) (Nat.le_of_ble_eq_true rfl) ?_
            exact W.iret (v := nI (cc - 1)) hx hb hr (fun t ht hW => ⟨⟨_, upd (fx) (nI (cc - 1)).toNatClampNeg (vp_nar .byte (kf_DO (-(x)).toNatClampNeg)), rfl, ⟨⟨_, rfl⟩, (ky_fitU hfx _ (ky_fitN _))⟩, by rw [ht]; exact hP9, hD9, trivial⟩, hS.F ht⟩) hS.2.2 dc_J6_getChars_ba4f3_120
          · skip
            have hfl : (if fl = 0 then 0 else 1) = 1 := if_neg c_3
            refine lv_aload_n hx hb dc_J6_getChars_ba4f3_109 rfl (lv_at hl 2 rfl) ?_
            refine lv_iinc (v := nI (cc - 1 - 1)) (lv' := [(5, .int (nI (cc - 1 - 1))), (0, .int (x)), (2, .ref da), (6, .int (fl))]) hx hb dc_J6_getChars_ba4f3_110 hl (k := 0) rfl (ky_pm1 (by omega)) (by decide) rfl (fun ls hl => ?_)
            refine lv_iload hx hb dc_J6_getChars_ba4f3_113 (lv_at hl 0 rfl) ?_
            refine lv_bipush (v := 45) hx hb dc_J6_getChars_ba4f3_115 (by decide) ?_
            refine va_bast hx hb hE.1 hP hD hS 0 0 rfl rfl (vp_in_nI (by omega) (by omega)) dc_J6_getChars_ba4f3_117 (fun H locs hP hD hS => ?_)
            have hP : va_P G.1 kcl [(da, .inl (G.2.1 0, mm, .inl (upd (upd (fx) (nI (cc - 1)).toNatClampNeg (vp_nar .byte (kf_DO (-(x)).toNatClampNeg))) (nI (cc - 1 - 1)).toNatClampNeg (vp_nar .byte ((45 : Int32))))))] H := hP
            have hD : va_D A [(da, .inl (G.2.1 0, mm, .inl (upd (upd (fx) (nI (cc - 1)).toNatClampNeg (vp_nar .byte (kf_DO (-(x)).toNatClampNeg))) (nI (cc - 1 - 1)).toNatClampNeg (vp_nar .byte ((45 : Int32))))))] := hD
            refine lv_iload hx hb dc_J6_getChars_ba4f3_118 (lv_at hl 0 rfl) ?_
            have hP9 := hP.sub (ws' := [(da, .inl (G.2.1 0, mm, .inl (upd (upd (fx) (nI (cc - 1)).toNatClampNeg (vp_nar .byte (kf_DO (-(x)).toNatClampNeg))) (nI (cc - 1 - 1)).toNatClampNeg (vp_nar .byte ((45 : Int32))))))]) [0] rfl
            have hD9 := hD.sub (ws' := [(da, .inl (G.2.1 0, mm, .inl (upd (upd (fx) (nI (cc - 1)).toNatClampNeg (vp_nar .byte (kf_DO (-(x)).toNatClampNeg))) (nI (cc - 1 - 1)).toNatClampNeg (vp_nar .byte ((45 : Int32))))))]) [0] (by decide) rfl
            refine W.widen (k := 0) (n := 0) (Nat.le_of_ble_eq_true rfl) (Nat.le_of_ble_eq_true rfl) ?_
            exact W.iret (v := nI (cc - 1 - 1)) hx hb hr (fun t ht hW => ⟨⟨_, upd (upd (fx) (nI (cc - 1)).toNatClampNeg (vp_nar .byte (kf_DO (-(x)).toNatClampNeg))) (nI (cc - 1 - 1)).toNatClampNeg (vp_nar .byte ((45 : Int32))), rfl, ⟨⟨_, rfl⟩, (ky_fitU (ky_fitU hfx _ (ky_fitN _)) _ (ky_fitN _))⟩, by rw [ht]; exact hP9, hD9, trivial⟩, hS.F ht⟩) hS.2.2 dc_J6_getChars_ba4f3_120
        · skip
          have hd9 := ky_d99 (ky_ge10I hv c_2) h100
          refine lv_aload_n hx hb dc_J6_getChars_ba4f3_91 rfl (lv_at hl 2 rfl) ?_
          refine lv_iinc (v := nI (cc - 1 - 1)) (lv' := [(5, .int (nI (cc - 1 - 1))), (0, .int (x)), (2, .ref da), (6, .int (fl))]) hx hb dc_J6_getChars_ba4f3_92 hl (k := 0) rfl (ky_pm1 (by omega)) (by decide) rfl (fun ls hl => ?_)
          refine lv_iload hx hb dc_J6_getChars_ba4f3_95 (lv_at hl 0 rfl) ?_
          obtain ⟨t_3, hZ_3, hT_3⟩ := kq_DT hE hfr
          refine va_gets hx hb hZ_3 hS hown (hts _ kw_2_57) (fun _ h9 => h9) dc_J6_getChars_ba4f3_97 ?_
          refine lv_iload_n hx hb dc_J6_getChars_ba4f3_100 rfl (lv_at hl 1 rfl) ?_
          refine lv_ineg hx hb dc_J6_getChars_ba4f3_101 ?_
          refine va_tb hx hb hT_3 hS hq9 (v := .int (kf_DT (-(x)).toNatClampNeg)) rfl dc_J6_getChars_ba4f3_102 ?_
          refine va_bast hx hb hE.1 hP hD hS 0 0 rfl rfl (vp_in_nI (by omega) (by omega)) dc_J6_getChars_ba4f3_103 (fun H locs hP hD hS => ?_)
          have hP : va_P G.1 kcl [(da, .inl (G.2.1 0, mm, .inl (upd (upd (fx) (nI (cc - 1)).toNatClampNeg (vp_nar .byte (kf_DO (-(x)).toNatClampNeg))) (nI (cc - 1 - 1)).toNatClampNeg (vp_nar .byte (kf_DT (-(x)).toNatClampNeg)))))] H := hP
          have hD : va_D A [(da, .inl (G.2.1 0, mm, .inl (upd (upd (fx) (nI (cc - 1)).toNatClampNeg (vp_nar .byte (kf_DO (-(x)).toNatClampNeg))) (nI (cc - 1 - 1)).toNatClampNeg (vp_nar .byte (kf_DT (-(x)).toNatClampNeg)))))] := hD
          refine lv_iload hx hb dc_J6_getChars_ba4f3_104 (lv_at hl 3 rfl) ?_
          refine lv_if_eq (tgt := 118) hx hb dc_J6_getChars_ba4f3_106 (by decide) (fun c_4 => ?_) (fun c_4 => ?_)
          · skip
            refine lv_iload hx hb dc_J6_getChars_ba4f3_118 (lv_at hl 0 rfl) ?_
            have hP9 := hP.sub (ws' := [(da, .inl (G.2.1 0, mm, .inl (upd (upd (fx) (nI (cc - 1)).toNatClampNeg (vp_nar .byte (kf_DO (-(x)).toNatClampNeg))) (nI (cc - 1 - 1)).toNatClampNeg (vp_nar .byte (kf_DT (-(x)).toNatClampNeg)))))]) [0] rfl
            have hD9 := hD.sub (ws' := [(da, .inl (G.2.1 0, mm, .inl (upd (upd (fx) (nI (cc - 1)).toNatClampNeg (vp_nar .byte (kf_DO (-(x)).toNatClampNeg))) (nI (cc - 1 - 1)).toNatClampNeg (vp_nar .byte (kf_DT (-(x)).toNatClampNeg)))))]) [0] (by decide) rfl
            refine W.widen (k := 0) (n := 0) (Nat.le_of_ble_eq_true rfl) (Nat.le_of_ble_eq_true rfl) ?_
            exact W.iret (v := nI (cc - 1 - 1)) hx hb hr (fun t ht hW => ⟨⟨_, upd (upd (fx) (nI (cc - 1)).toNatClampNeg (vp_nar .byte (kf_DO (-(x)).toNatClampNeg))) (nI (cc - 1 - 1)).toNatClampNeg (vp_nar .byte (kf_DT (-(x)).toNatClampNeg)), rfl, ⟨⟨_, rfl⟩, (ky_fitU (ky_fitU hfx _ (ky_fitN _)) _ (ky_fitN _))⟩, by rw [ht]; exact hP9, hD9, trivial⟩, hS.F ht⟩) hS.2.2 dc_J6_getChars_ba4f3_120
          · skip
            have hfl : (if fl = 0 then 0 else 1) = 1 := if_neg c_4
            refine lv_aload_n hx hb dc_J6_getChars_ba4f3_109 rfl (lv_at hl 2 rfl) ?_
            refine lv_iinc (v := nI (cc - 1 - 1 - 1)) (lv' := [(5, .int (nI (cc - 1 - 1 - 1))), (0, .int (x)), (2, .ref da), (6, .int (fl))]) hx hb dc_J6_getChars_ba4f3_110 hl (k := 0) rfl (ky_pm1 (by omega)) (by decide) rfl (fun ls hl => ?_)
            refine lv_iload hx hb dc_J6_getChars_ba4f3_113 (lv_at hl 0 rfl) ?_
            refine lv_bipush (v := 45) hx hb dc_J6_getChars_ba4f3_115 (by decide) ?_
            refine va_bast hx hb hE.1 hP hD hS 0 0 rfl rfl (vp_in_nI (by omega) (by omega)) dc_J6_getChars_ba4f3_117 (fun H locs hP hD hS => ?_)
            have hP : va_P G.1 kcl [(da, .inl (G.2.1 0, mm, .inl (upd (upd (upd (fx) (nI (cc - 1)).toNatClampNeg (vp_nar .byte (kf_DO (-(x)).toNatClampNeg))) (nI (cc - 1 - 1)).toNatClampNeg (vp_nar .byte (kf_DT (-(x)).toNatClampNeg))) (nI (cc - 1 - 1 - 1)).toNatClampNeg (vp_nar .byte ((45 : Int32))))))] H := hP
            have hD : va_D A [(da, .inl (G.2.1 0, mm, .inl (upd (upd (upd (fx) (nI (cc - 1)).toNatClampNeg (vp_nar .byte (kf_DO (-(x)).toNatClampNeg))) (nI (cc - 1 - 1)).toNatClampNeg (vp_nar .byte (kf_DT (-(x)).toNatClampNeg))) (nI (cc - 1 - 1 - 1)).toNatClampNeg (vp_nar .byte ((45 : Int32))))))] := hD
            refine lv_iload hx hb dc_J6_getChars_ba4f3_118 (lv_at hl 0 rfl) ?_
            have hP9 := hP.sub (ws' := [(da, .inl (G.2.1 0, mm, .inl (upd (upd (upd (fx) (nI (cc - 1)).toNatClampNeg (vp_nar .byte (kf_DO (-(x)).toNatClampNeg))) (nI (cc - 1 - 1)).toNatClampNeg (vp_nar .byte (kf_DT (-(x)).toNatClampNeg))) (nI (cc - 1 - 1 - 1)).toNatClampNeg (vp_nar .byte ((45 : Int32))))))]) [0] rfl
            have hD9 := hD.sub (ws' := [(da, .inl (G.2.1 0, mm, .inl (upd (upd (upd (fx) (nI (cc - 1)).toNatClampNeg (vp_nar .byte (kf_DO (-(x)).toNatClampNeg))) (nI (cc - 1 - 1)).toNatClampNeg (vp_nar .byte (kf_DT (-(x)).toNatClampNeg))) (nI (cc - 1 - 1 - 1)).toNatClampNeg (vp_nar .byte ((45 : Int32))))))]) [0] (by decide) rfl
            refine W.widen (k := 0) (n := 0) (Nat.le_of_ble_eq_true rfl) (Nat.le_of_ble_eq_true rfl) ?_
            exact W.iret (v := nI (cc - 1 - 1 - 1)) hx hb hr (fun t ht hW => ⟨⟨_, upd (upd (upd (fx) (nI (cc - 1)).toNatClampNeg (vp_nar .byte (kf_DO (-(x)).toNatClampNeg))) (nI (cc - 1 - 1)).toNatClampNeg (vp_nar .byte (kf_DT (-(x)).toNatClampNeg))) (nI (cc - 1 - 1 - 1)).toNatClampNeg (vp_nar .byte ((45 : Int32))), rfl, ⟨⟨_, rfl⟩, (ky_fitU (ky_fitU (ky_fitU hfx _ (ky_fitN _)) _ (ky_fitN _)) _ (ky_fitN _))⟩, by rw [ht]; exact hP9, hD9, trivial⟩, hS.F ht⟩) hS.2.2 dc_J6_getChars_ba4f3_120
      · skip
        have h100 := ky_ge100I hv c_0
        have hd9 := ky_d100 h100 (ky_vI hv)
        have hd8 := ky_d1 (v / 100)
        have hr9 := ky_rem100I hv
        refine lv_iload_n hx hb dc_J6_getChars_ba4f3_28 rfl (lv_at hl 0 rfl) ?_
        refine lv_bipush (v := 100) hx hb dc_J6_getChars_ba4f3_29 (by decide) ?_
        refine lv_idiv hx hb dc_J6_getChars_ba4f3_31 (by decide) ?_
        refine lv_istore_n (lv' := [(3, .int ((x) / ((100 : Int32)))), (0, .int (x)), (2, .ref da), (5, .int (nI (cc))), (6, .int (fl))]) hx hb dc_J6_getChars_ba4f3_32 rfl hl (by decide) rfl (fun ls hl => ?_)
        refine lv_iload_n hx hb dc_J6_getChars_ba4f3_33 rfl (lv_at hl 0 rfl) ?_
        refine lv_bipush (v := 100) hx hb dc_J6_getChars_ba4f3_34 (by decide) ?_
        refine lv_imul hx hb dc_J6_getChars_ba4f3_36 ?_
        refine lv_iload_n hx hb dc_J6_getChars_ba4f3_37 rfl (lv_at hl 1 rfl) ?_
        refine lv_isub hx hb dc_J6_getChars_ba4f3_38 ?_
        refine lv_istore (lv' := [(4, .int ((((x) / ((100 : Int32))) * ((100 : Int32))) - (x))), (3, .int ((x) / ((100 : Int32)))), (0, .int (x)), (2, .ref da), (5, .int (nI (cc))), (6, .int (fl))]) hx hb dc_J6_getChars_ba4f3_39 hl (by decide) rfl (fun ls hl => ?_)
        refine lv_iload_n hx hb dc_J6_getChars_ba4f3_41 rfl (lv_at hl 1 rfl) ?_
        refine lv_istore_n (lv' := [(0, .int ((x) / ((100 : Int32)))), (4, .int ((((x) / ((100 : Int32))) * ((100 : Int32))) - (x))), (3, .int ((x) / ((100 : Int32)))), (2, .ref da), (5, .int (nI (cc))), (6, .int (fl))]) hx hb dc_J6_getChars_ba4f3_42 rfl hl (by decide) rfl (fun ls hl => ?_)
        refine lv_aload_n hx hb dc_J6_getChars_ba4f3_43 rfl (lv_at hl 3 rfl) ?_
        refine lv_iinc (v := nI (cc - 1)) (lv' := [(5, .int (nI (cc - 1))), (0, .int ((x) / ((100 : Int32)))), (4, .int ((((x) / ((100 : Int32))) * ((100 : Int32))) - (x))), (3, .int ((x) / ((100 : Int32)))), (2, .ref da), (6, .int (fl))]) hx hb dc_J6_getChars_ba4f3_44 hl (k := 4) rfl (ky_pm1 (by omega)) (by decide) rfl (fun ls hl => ?_)
        refine lv_iload hx hb dc_J6_getChars_ba4f3_47 (lv_at hl 0 rfl) ?_
        obtain ⟨t_1, hZ_1, hT_1⟩ := kq_DO hE hfr
        refine va_gets hx hb hZ_1 hS hown (hts _ kw_2_55) (fun _ h9 => h9) dc_J6_getChars_ba4f3_49 ?_
        refine lv_iload hx hb dc_J6_getChars_ba4f3_52 (lv_at hl 2 rfl) ?_
        refine va_tb hx hb hT_1 hS hr9 (v := .int (kf_DO ((((x) / ((100 : Int32))) * ((100 : Int32))) - (x)).toNatClampNeg)) rfl dc_J6_getChars_ba4f3_54 ?_
        refine va_bast hx hb hE.1 hP hD hS 0 0 rfl rfl (vp_in_nI (by omega) (by omega)) dc_J6_getChars_ba4f3_55 (fun H locs hP hD hS => ?_)
        have hP : va_P G.1 kcl [(da, .inl (G.2.1 0, mm, .inl (upd (fx) (nI (cc - 1)).toNatClampNeg (vp_nar .byte (kf_DO ((((x) / ((100 : Int32))) * ((100 : Int32))) - (x)).toNatClampNeg)))))] H := hP
        have hD : va_D A [(da, .inl (G.2.1 0, mm, .inl (upd (fx) (nI (cc - 1)).toNatClampNeg (vp_nar .byte (kf_DO ((((x) / ((100 : Int32))) * ((100 : Int32))) - (x)).toNatClampNeg)))))] := hD
        refine lv_aload_n hx hb dc_J6_getChars_ba4f3_56 rfl (lv_at hl 4 rfl) ?_
        refine lv_iinc (v := nI (cc - 1 - 1)) (lv' := [(5, .int (nI (cc - 1 - 1))), (0, .int ((x) / ((100 : Int32)))), (4, .int ((((x) / ((100 : Int32))) * ((100 : Int32))) - (x))), (3, .int ((x) / ((100 : Int32)))), (2, .ref da), (6, .int (fl))]) hx hb dc_J6_getChars_ba4f3_57 hl (k := 0) rfl (ky_pm1 (by omega)) (by decide) rfl (fun ls hl => ?_)
        refine lv_iload hx hb dc_J6_getChars_ba4f3_60 (lv_at hl 0 rfl) ?_
        obtain ⟨t_2, hZ_2, hT_2⟩ := kq_DT hE hfr
        refine va_gets hx hb hZ_2 hS hown (hts _ kw_2_57) (fun _ h9 => h9) dc_J6_getChars_ba4f3_62 ?_
        refine lv_iload hx hb dc_J6_getChars_ba4f3_65 (lv_at hl 2 rfl) ?_
        refine va_tb hx hb hT_2 hS hr9 (v := .int (kf_DT ((((x) / ((100 : Int32))) * ((100 : Int32))) - (x)).toNatClampNeg)) rfl dc_J6_getChars_ba4f3_67 ?_
        refine va_bast hx hb hE.1 hP hD hS 0 0 rfl rfl (vp_in_nI (by omega) (by omega)) dc_J6_getChars_ba4f3_68 (fun H locs hP hD hS => ?_)
        have hP : va_P G.1 kcl [(da, .inl (G.2.1 0, mm, .inl (upd (upd (fx) (nI (cc - 1)).toNatClampNeg (vp_nar .byte (kf_DO ((((x) / ((100 : Int32))) * ((100 : Int32))) - (x)).toNatClampNeg))) (nI (cc - 1 - 1)).toNatClampNeg (vp_nar .byte (kf_DT ((((x) / ((100 : Int32))) * ((100 : Int32))) - (x)).toNatClampNeg)))))] H := hP
        have hD : va_D A [(da, .inl (G.2.1 0, mm, .inl (upd (upd (fx) (nI (cc - 1)).toNatClampNeg (vp_nar .byte (kf_DO ((((x) / ((100 : Int32))) * ((100 : Int32))) - (x)).toNatClampNeg))) (nI (cc - 1 - 1)).toNatClampNeg (vp_nar .byte (kf_DT ((((x) / ((100 : Int32))) * ((100 : Int32))) - (x)).toNatClampNeg)))))] := hD
        refine lv_goto (tgt := 22) hx hb dc_J6_getChars_ba4f3_69 (by decide) ?_
        refine W.widen (k := 0) (n := 0) (by first | exact Nat.le_refl _ | omega | exact Nat.zero_le _) (by first | exact Nat.le_refl _ | omega | exact Nat.zero_le _) ?_
        exact ih ((x) / ((100 : Int32))) (v / 100) (cc - 1 - 1) (upd (upd (fx) (nI (cc - 1)).toNatClampNeg (vp_nar .byte (kf_DO ((((x) / ((100 : Int32))) * ((100 : Int32))) - (x)).toNatClampNeg))) (nI (cc - 1 - 1)).toNatClampNeg (vp_nar .byte (kf_DT ((((x) / ((100 : Int32))) * ((100 : Int32))) - (x)).toNatClampNeg))) fl (ky_div100I hv) (by omega) (by omega) (by omega) (ky_fitU (ky_fitU hfx _ (ky_fitN _)) _ (ky_fitN _)) _ _ (hP.sub (ws' := [(da, .inl (G.2.1 0, mm, .inl (upd (upd (fx) (nI (cc - 1)).toNatClampNeg (vp_nar .byte (kf_DO ((((x) / ((100 : Int32))) * ((100 : Int32))) - (x)).toNatClampNeg))) (nI (cc - 1 - 1)).toNatClampNeg (vp_nar .byte (kf_DT ((((x) / ((100 : Int32))) * ((100 : Int32))) - (x)).toNatClampNeg)))))]) [0] rfl) (hD.sub (ws' := [(da, .inl (G.2.1 0, mm, .inl (upd (upd (fx) (nI (cc - 1)).toNatClampNeg (vp_nar .byte (kf_DO ((((x) / ((100 : Int32))) * ((100 : Int32))) - (x)).toNatClampNeg))) (nI (cc - 1 - 1)).toNatClampNeg (vp_nar .byte (kf_DT ((((x) / ((100 : Int32))) * ((100 : Int32))) - (x)).toNatClampNeg)))))]) [0] (by decide) rfl) hS  _ (lv_sub hl [1, 4, 0, 5] rfl)
set_option linter.constructorNameAsVariable false in
set_option maxHeartbeats 4000000 in
set_option maxRecDepth 100000 in
theorem mt_J6_getChars_ba4f3 (l : Launch) (G : ky_G) (da : Nat) (mm : Nat) (ix : Nat) (f : Nat → Int32) (a0 : Int32) (sz : Nat) (hi : ky_szI a0 ≤ ix) (hix : ix ≤ mm) (hmm : mm < 2 ^ 20) (hf : ky_fit f) : Met l my_J6_getChars_ba4f3 (.code my_J6_getChars_ba4f3 prog_18_method_12_code 7 (some .int) :: ky_B) { frames := 0, cells := 0, slots := 0, locals := 0 } (ky_P G [.int (a0), .int (nI (ix)), .ref da] ([(da, .inl (G.2.1 0, mm, .inl f))]) sz (fun _ => True)) (ky_Q (S := Nat → Int32) G (va_A ([(da, .inl (G.2.1 0, mm, .inl f))]) sz) (fun v u => (∃ z, v = some (.int z)) ∧ ky_fit u) (fun u => [(da, .inl (G.2.1 0, mm, .inl u))]) (fun _ _ => True)) (0) (0) (va_A ([(da, .inl (G.2.1 0, mm, .inl f))]) sz) := by
  refine ky_start (by decide) (Nat.le_of_ble_eq_true rfl) (fun p e s m below meth c F hE A hAe hsz hA hfr hP hD hS hX ls hl => ?_)
  obtain ⟨hx, hb, hml, hown, hr, hlocks, hts⟩ := id F
  have hl : lv_has ls 7 [(0, .int (a0)), (1, .int (nI (ix))), (2, .ref da)] := hl
  have hP : va_P G.1 kcl [(da, .inl (G.2.1 0, mm, .inl (f)))] s.heap := hP
  have hD : va_D A [(da, .inl (G.2.1 0, mm, .inl (f)))] := hD
  refine lv_iload_n hx hb dc_J6_getChars_ba4f3_0 rfl (lv_at hl 1 rfl) ?_
  refine lv_istore (lv' := [(5, .int (nI (ix))), (0, .int (a0)), (1, .int (nI (ix))), (2, .ref da)]) hx hb dc_J6_getChars_ba4f3_1 hl (by decide) rfl (fun ls hl => ?_)
  refine lv_iload_n hx hb dc_J6_getChars_ba4f3_3 rfl (lv_at hl 1 rfl) ?_
  refine lv_if_ge (tgt := 11) hx hb dc_J6_getChars_ba4f3_4 (by decide) (fun c_0 => ?_) (fun c_0 => ?_)
  · skip
    refine lv_iconst (v := 0) hx hb dc_J6_getChars_ba4f3_11 (by decide) ?_
    refine lv_istore (lv' := [(6, .int ((0 : Int32))), (5, .int (nI (ix))), (0, .int (a0)), (1, .int (nI (ix))), (2, .ref da)]) hx hb dc_J6_getChars_ba4f3_12 hl (by decide) rfl (fun ls hl => ?_)
    refine lv_iload hx hb dc_J6_getChars_ba4f3_14 (lv_at hl 0 rfl) ?_
    refine lv_if_ne (tgt := 22) hx hb dc_J6_getChars_ba4f3_16 (by decide) (fun c_1 => absurd c_1 (by decide)) (fun _ => ?_)
    refine lv_iload_n hx hb dc_J6_getChars_ba4f3_19 rfl (lv_at hl 2 rfl) ?_
    refine lv_ineg hx hb dc_J6_getChars_ba4f3_20 ?_
    refine lv_istore_n (lv' := [(0, .int (-(a0))), (6, .int ((0 : Int32))), (5, .int (nI (ix))), (1, .int (nI (ix))), (2, .ref da)]) hx hb dc_J6_getChars_ba4f3_21 rfl hl (by decide) rfl (fun ls hl => ?_)
    have hs9 : ¬ a0 < 0 := Int32.not_lt.mpr c_0
    have hi2 := hi
    unfold ky_szI at hi2
    rw [if_neg hs9] at hi2
    refine W.widen (k := 0) (n := 0) (by first | exact Nat.le_refl _ | omega | exact Nat.zero_le _) (by first | exact Nat.le_refl _ | omega | exact Nat.zero_le _) ?_
    exact ml_J6_getChars_ba4f3_L22 (da := da) (mm := mm) (ix := ix) (f := f) (a0 := a0) F hE hA hfr  hmm (ky_d a0.toInt.natAbs) (-(a0)) a0.toInt.natAbs ix f (0 : Int32) (ky_absI.2 hs9) (Nat.le_refl _) hi2 hix hf _ _ (hP.sub (ws' := [(da, .inl (G.2.1 0, mm, .inl (f)))]) [0] rfl) (hD.sub (ws' := [(da, .inl (G.2.1 0, mm, .inl (f)))]) [0] (by decide) rfl) hS  _ (lv_sub hl [0, 4, 2, 1] rfl)
  · skip
    refine lv_iconst (v := 1) hx hb dc_J6_getChars_ba4f3_7 (by decide) ?_
    refine lv_goto (tgt := 12) hx hb dc_J6_getChars_ba4f3_8 (by decide) ?_
    refine lv_istore (lv' := [(6, .int ((1 : Int32))), (5, .int (nI (ix))), (0, .int (a0)), (1, .int (nI (ix))), (2, .ref da)]) hx hb dc_J6_getChars_ba4f3_12 hl (by decide) rfl (fun ls hl => ?_)
    refine lv_iload hx hb dc_J6_getChars_ba4f3_14 (lv_at hl 0 rfl) ?_
    refine lv_if_ne (tgt := 22) hx hb dc_J6_getChars_ba4f3_16 (by decide) (fun _ => ?_) (fun c_1 => absurd c_1 (by decide))
    have hs9 : a0 < 0 := Int32.not_le.mp c_0
    have hi2 := hi
    unfold ky_szI at hi2
    rw [if_pos hs9] at hi2
    refine W.widen (k := 0) (n := 0) (by first | exact Nat.le_refl _ | omega | exact Nat.zero_le _) (by first | exact Nat.le_refl _ | omega | exact Nat.zero_le _) ?_
    exact ml_J6_getChars_ba4f3_L22 (da := da) (mm := mm) (ix := ix) (f := f) (a0 := a0) F hE hA hfr  hmm (ky_d a0.toInt.natAbs) a0 a0.toInt.natAbs ix f (1 : Int32) (ky_absI.1 hs9) (Nat.le_refl _) hi2 hix hf _ _ (hP.sub (ws' := [(da, .inl (G.2.1 0, mm, .inl (f)))]) [0] rfl) (hD.sub (ws' := [(da, .inl (G.2.1 0, mm, .inl (f)))]) [0] (by decide) rfl) hS  _ (lv_sub hl [2, 4, 1, 0] rfl)
set_option linter.constructorNameAsVariable false in
set_option maxHeartbeats 4000000 in
set_option maxRecDepth 100000 in
theorem ml_J13_getChars_11360_L86 {p : Program} {l : Launch} {e : Env} {s : State} {m : MethodId} {args : Array Value} {below : List Frame} {meth : Method} {c : Code} {G : ky_G} {A : Nat → Prop} {da : Nat} {mm : Nat} {ix : Nat} {f : Nat → Int32} {a0 : Int64} (F : ky_F p s m meth c my_J13_getChars_11360.cls prog_19_method_14_code 11 (some .int) args) (hE : ky_E G s) (hA : ∀ q, s.heap.size ≤ q → A q) (hfr : ∀ q, A q → ky_fr G q)  (hmm : mm < 2 ^ 20) : ∀ (n9 : Nat) (x : Int32) (v : Nat) (cc : Nat) (fx : Nat → Int32) (fl : Int32) (hv : x.toInt = -(v : Int)) (hn : ky_d v ≤ n9) (hc : ky_d v + (if fl = 0 then 0 else 1) ≤ cc) (hcm : cc ≤ mm) (hfx : ky_fit fx) (H : Heap) (locs : List Loc), va_P G.1 kcl [(da, .inl (G.2.1 0, mm, .inl (fx)))] H → va_D A [(da, .inl (G.2.1 0, mm, .inl (fx)))] → va_S A s.heap H locs →  ∀ ls : Array Slot, lv_has ls 11 [(3, .ref da), (7, .int (nI (cc))), (8, .int (fl)), (10, .int (x))] → W p l e { frames := 0, cells := 0, slots := 0, locals := 0 } s m args below meth c H locs (0) (0) (MQ below (ky_Q (S := Nat → Int32) G A (fun v u => (∃ z, v = some (.int z)) ∧ ky_fit u) (fun u => [(da, .inl (G.2.1 0, mm, .inl u))]) (fun _ _ => True)) args s (0) (0) A) (F0 m 86 ls []) := by
  obtain ⟨hx, hb, hml, hown, hr, hlocks, hts⟩ := id F
  intro n9
  induction n9 with
  | zero => intro x v cc fx fl hv hn hc hcm hfx; exact False.elim (by have := ky_d1 v; omega)
  | succ n9 ih =>
      intro x v cc fx fl hv hn hc hcm hfx H locs hP hD hS  ls hl
      refine lv_iload hx hb dc_J13_getChars_11360_86 (lv_at hl 3 rfl) ?_
      refine lv_bipush (v := (-100)) hx hb dc_J13_getChars_11360_88 (by decide) ?_
      refine lv_icmp_gt (tgt := 143) hx hb dc_J13_getChars_11360_90 (by decide) (fun c_0 => ?_) (fun c_0 => ?_)
      · skip
        have h100 := ky_lt100I hv c_0
        have hd8 := ky_d1 v
        have hq9 := ky_neg100I hv h100
        refine lv_aload_n hx hb dc_J13_getChars_11360_143 rfl (lv_at hl 0 rfl) ?_
        refine lv_iinc (v := nI (cc - 1)) (lv' := [(7, .int (nI (cc - 1))), (3, .ref da), (8, .int (fl)), (10, .int (x))]) hx hb dc_J13_getChars_11360_144 hl (k := 1) rfl (ky_pm1 (by omega)) (by decide) rfl (fun ls hl => ?_)
        refine lv_iload hx hb dc_J13_getChars_11360_147 (lv_at hl 0 rfl) ?_
        obtain ⟨t_1, hZ_1, hT_1⟩ := kq_DO hE hfr
        refine va_gets hx hb hZ_1 hS hown (hts _ kw_7_74) (fun _ h9 => h9) dc_J13_getChars_11360_149 ?_
        refine lv_iload hx hb dc_J13_getChars_11360_152 (lv_at hl 3 rfl) ?_
        refine lv_ineg hx hb dc_J13_getChars_11360_154 ?_
        refine va_tb hx hb hT_1 hS hq9 (v := .int (kf_DO (-(x)).toNatClampNeg)) rfl dc_J13_getChars_11360_155 ?_
        refine va_bast hx hb hE.1 hP hD hS 0 0 rfl rfl (vp_in_nI (by omega) (by omega)) dc_J13_getChars_11360_156 (fun H locs hP hD hS => ?_)
        have hP : va_P G.1 kcl [(da, .inl (G.2.1 0, mm, .inl (upd (fx) (nI (cc - 1)).toNatClampNeg (vp_nar .byte (kf_DO (-(x)).toNatClampNeg)))))] H := hP
        have hD : va_D A [(da, .inl (G.2.1 0, mm, .inl (upd (fx) (nI (cc - 1)).toNatClampNeg (vp_nar .byte (kf_DO (-(x)).toNatClampNeg)))))] := hD
        refine lv_iload hx hb dc_J13_getChars_11360_157 (lv_at hl 3 rfl) ?_
        refine lv_bipush (v := (-9)) hx hb dc_J13_getChars_11360_159 (by decide) ?_
        refine lv_icmp_ge (tgt := 178) hx hb dc_J13_getChars_11360_161 (by decide) (fun c_2 => ?_) (fun c_2 => ?_)
        · skip
          refine lv_iload hx hb dc_J13_getChars_11360_178 (lv_at hl 2 rfl) ?_
          refine lv_if_eq (tgt := 192) hx hb dc_J13_getChars_11360_180 (by decide) (fun c_3 => ?_) (fun c_3 => ?_)
          · skip
            refine lv_iload hx hb dc_J13_getChars_11360_192 (lv_at hl 0 rfl) ?_
            have hP9 := hP.sub (ws' := [(da, .inl (G.2.1 0, mm, .inl (upd (fx) (nI (cc - 1)).toNatClampNeg (vp_nar .byte (kf_DO (-(x)).toNatClampNeg)))))]) [0] rfl
            have hD9 := hD.sub (ws' := [(da, .inl (G.2.1 0, mm, .inl (upd (fx) (nI (cc - 1)).toNatClampNeg (vp_nar .byte (kf_DO (-(x)).toNatClampNeg)))))]) [0] (by decide) rfl
            refine W.widen (k := 0) (n := 0) (Nat.le_of_ble_eq_true rfl) (Nat.le_of_ble_eq_true rfl) ?_
            exact W.iret (v := nI (cc - 1)) hx hb hr (fun t ht hW => ⟨⟨_, upd (fx) (nI (cc - 1)).toNatClampNeg (vp_nar .byte (kf_DO (-(x)).toNatClampNeg)), rfl, ⟨⟨_, rfl⟩, (ky_fitU hfx _ (ky_fitN _))⟩, by rw [ht]; exact hP9, hD9, trivial⟩, hS.F ht⟩) hS.2.2 dc_J13_getChars_11360_194
          · skip
            have hfl : (if fl = 0 then 0 else 1) = 1 := if_neg c_3
            refine lv_aload_n hx hb dc_J13_getChars_11360_183 rfl (lv_at hl 1 rfl) ?_
            refine lv_iinc (v := nI (cc - 1 - 1)) (lv' := [(7, .int (nI (cc - 1 - 1))), (3, .ref da), (8, .int (fl)), (10, .int (x))]) hx hb dc_J13_getChars_11360_184 hl (k := 0) rfl (ky_pm1 (by omega)) (by decide) rfl (fun ls hl => ?_)
            refine lv_iload hx hb dc_J13_getChars_11360_187 (lv_at hl 0 rfl) ?_
            refine lv_bipush (v := 45) hx hb dc_J13_getChars_11360_189 (by decide) ?_
            refine va_bast hx hb hE.1 hP hD hS 0 0 rfl rfl (vp_in_nI (by omega) (by omega)) dc_J13_getChars_11360_191 (fun H locs hP hD hS => ?_)
            have hP : va_P G.1 kcl [(da, .inl (G.2.1 0, mm, .inl (upd (upd (fx) (nI (cc - 1)).toNatClampNeg (vp_nar .byte (kf_DO (-(x)).toNatClampNeg))) (nI (cc - 1 - 1)).toNatClampNeg (vp_nar .byte ((45 : Int32))))))] H := hP
            have hD : va_D A [(da, .inl (G.2.1 0, mm, .inl (upd (upd (fx) (nI (cc - 1)).toNatClampNeg (vp_nar .byte (kf_DO (-(x)).toNatClampNeg))) (nI (cc - 1 - 1)).toNatClampNeg (vp_nar .byte ((45 : Int32))))))] := hD
            refine lv_iload hx hb dc_J13_getChars_11360_192 (lv_at hl 0 rfl) ?_
            have hP9 := hP.sub (ws' := [(da, .inl (G.2.1 0, mm, .inl (upd (upd (fx) (nI (cc - 1)).toNatClampNeg (vp_nar .byte (kf_DO (-(x)).toNatClampNeg))) (nI (cc - 1 - 1)).toNatClampNeg (vp_nar .byte ((45 : Int32))))))]) [0] rfl
            have hD9 := hD.sub (ws' := [(da, .inl (G.2.1 0, mm, .inl (upd (upd (fx) (nI (cc - 1)).toNatClampNeg (vp_nar .byte (kf_DO (-(x)).toNatClampNeg))) (nI (cc - 1 - 1)).toNatClampNeg (vp_nar .byte ((45 : Int32))))))]) [0] (by decide) rfl
            refine W.widen (k := 0) (n := 0) (Nat.le_of_ble_eq_true rfl) (Nat.le_of_ble_eq_true rfl) ?_
            exact W.iret (v := nI (cc - 1 - 1)) hx hb hr (fun t ht hW => ⟨⟨_, upd (upd (fx) (nI (cc - 1)).toNatClampNeg (vp_nar .byte (kf_DO (-(x)).toNatClampNeg))) (nI (cc - 1 - 1)).toNatClampNeg (vp_nar .byte ((45 : Int32))), rfl, ⟨⟨_, rfl⟩, (ky_fitU (ky_fitU hfx _ (ky_fitN _)) _ (ky_fitN _))⟩, by rw [ht]; exact hP9, hD9, trivial⟩, hS.F ht⟩) hS.2.2 dc_J13_getChars_11360_194
        · skip
          have hd9 := ky_d99 (ky_ge10I hv c_2) h100
          refine lv_aload_n hx hb dc_J13_getChars_11360_164 rfl (lv_at hl 1 rfl) ?_
          refine lv_iinc (v := nI (cc - 1 - 1)) (lv' := [(7, .int (nI (cc - 1 - 1))), (3, .ref da), (8, .int (fl)), (10, .int (x))]) hx hb dc_J13_getChars_11360_165 hl (k := 0) rfl (ky_pm1 (by omega)) (by decide) rfl (fun ls hl => ?_)
          refine lv_iload hx hb dc_J13_getChars_11360_168 (lv_at hl 0 rfl) ?_
          obtain ⟨t_3, hZ_3, hT_3⟩ := kq_DT hE hfr
          refine va_gets hx hb hZ_3 hS hown (hts _ kw_7_75) (fun _ h9 => h9) dc_J13_getChars_11360_170 ?_
          refine lv_iload hx hb dc_J13_getChars_11360_173 (lv_at hl 3 rfl) ?_
          refine lv_ineg hx hb dc_J13_getChars_11360_175 ?_
          refine va_tb hx hb hT_3 hS hq9 (v := .int (kf_DT (-(x)).toNatClampNeg)) rfl dc_J13_getChars_11360_176 ?_
          refine va_bast hx hb hE.1 hP hD hS 0 0 rfl rfl (vp_in_nI (by omega) (by omega)) dc_J13_getChars_11360_177 (fun H locs hP hD hS => ?_)
          have hP : va_P G.1 kcl [(da, .inl (G.2.1 0, mm, .inl (upd (upd (fx) (nI (cc - 1)).toNatClampNeg (vp_nar .byte (kf_DO (-(x)).toNatClampNeg))) (nI (cc - 1 - 1)).toNatClampNeg (vp_nar .byte (kf_DT (-(x)).toNatClampNeg)))))] H := hP
          have hD : va_D A [(da, .inl (G.2.1 0, mm, .inl (upd (upd (fx) (nI (cc - 1)).toNatClampNeg (vp_nar .byte (kf_DO (-(x)).toNatClampNeg))) (nI (cc - 1 - 1)).toNatClampNeg (vp_nar .byte (kf_DT (-(x)).toNatClampNeg)))))] := hD
          refine lv_iload hx hb dc_J13_getChars_11360_178 (lv_at hl 2 rfl) ?_
          refine lv_if_eq (tgt := 192) hx hb dc_J13_getChars_11360_180 (by decide) (fun c_4 => ?_) (fun c_4 => ?_)
          · skip
            refine lv_iload hx hb dc_J13_getChars_11360_192 (lv_at hl 0 rfl) ?_
            have hP9 := hP.sub (ws' := [(da, .inl (G.2.1 0, mm, .inl (upd (upd (fx) (nI (cc - 1)).toNatClampNeg (vp_nar .byte (kf_DO (-(x)).toNatClampNeg))) (nI (cc - 1 - 1)).toNatClampNeg (vp_nar .byte (kf_DT (-(x)).toNatClampNeg)))))]) [0] rfl
            have hD9 := hD.sub (ws' := [(da, .inl (G.2.1 0, mm, .inl (upd (upd (fx) (nI (cc - 1)).toNatClampNeg (vp_nar .byte (kf_DO (-(x)).toNatClampNeg))) (nI (cc - 1 - 1)).toNatClampNeg (vp_nar .byte (kf_DT (-(x)).toNatClampNeg)))))]) [0] (by decide) rfl
            refine W.widen (k := 0) (n := 0) (Nat.le_of_ble_eq_true rfl) (Nat.le_of_ble_eq_true rfl) ?_
            exact W.iret (v := nI (cc - 1 - 1)) hx hb hr (fun t ht hW => ⟨⟨_, upd (upd (fx) (nI (cc - 1)).toNatClampNeg (vp_nar .byte (kf_DO (-(x)).toNatClampNeg))) (nI (cc - 1 - 1)).toNatClampNeg (vp_nar .byte (kf_DT (-(x)).toNatClampNeg)), rfl, ⟨⟨_, rfl⟩, (ky_fitU (ky_fitU hfx _ (ky_fitN _)) _ (ky_fitN _))⟩, by rw [ht]; exact hP9, hD9, trivial⟩, hS.F ht⟩) hS.2.2 dc_J13_getChars_11360_194
          · skip
            have hfl : (if fl = 0 then 0 else 1) = 1 := if_neg c_4
            refine lv_aload_n hx hb dc_J13_getChars_11360_183 rfl (lv_at hl 1 rfl) ?_
            refine lv_iinc (v := nI (cc - 1 - 1 - 1)) (lv' := [(7, .int (nI (cc - 1 - 1 - 1))), (3, .ref da), (8, .int (fl)), (10, .int (x))]) hx hb dc_J13_getChars_11360_184 hl (k := 0) rfl (ky_pm1 (by omega)) (by decide) rfl (fun ls hl => ?_)
            refine lv_iload hx hb dc_J13_getChars_11360_187 (lv_at hl 0 rfl) ?_
            refine lv_bipush (v := 45) hx hb dc_J13_getChars_11360_189 (by decide) ?_
            refine va_bast hx hb hE.1 hP hD hS 0 0 rfl rfl (vp_in_nI (by omega) (by omega)) dc_J13_getChars_11360_191 (fun H locs hP hD hS => ?_)
            have hP : va_P G.1 kcl [(da, .inl (G.2.1 0, mm, .inl (upd (upd (upd (fx) (nI (cc - 1)).toNatClampNeg (vp_nar .byte (kf_DO (-(x)).toNatClampNeg))) (nI (cc - 1 - 1)).toNatClampNeg (vp_nar .byte (kf_DT (-(x)).toNatClampNeg))) (nI (cc - 1 - 1 - 1)).toNatClampNeg (vp_nar .byte ((45 : Int32))))))] H := hP
            have hD : va_D A [(da, .inl (G.2.1 0, mm, .inl (upd (upd (upd (fx) (nI (cc - 1)).toNatClampNeg (vp_nar .byte (kf_DO (-(x)).toNatClampNeg))) (nI (cc - 1 - 1)).toNatClampNeg (vp_nar .byte (kf_DT (-(x)).toNatClampNeg))) (nI (cc - 1 - 1 - 1)).toNatClampNeg (vp_nar .byte ((45 : Int32))))))] := hD
            refine lv_iload hx hb dc_J13_getChars_11360_192 (lv_at hl 0 rfl) ?_
            have hP9 := hP.sub (ws' := [(da, .inl (G.2.1 0, mm, .inl (upd (upd (upd (fx) (nI (cc - 1)).toNatClampNeg (vp_nar .byte (kf_DO (-(x)).toNatClampNeg))) (nI (cc - 1 - 1)).toNatClampNeg (vp_nar .byte (kf_DT (-(x)).toNatClampNeg))) (nI (cc - 1 - 1 - 1)).toNatClampNeg (vp_nar .byte ((45 : Int32))))))]) [0] rfl
            have hD9 := hD.sub (ws' := [(da, .inl (G.2.1 0, mm, .inl (upd (upd (upd (fx) (nI (cc - 1)).toNatClampNeg (vp_nar .byte (kf_DO (-(x)).toNatClampNeg))) (nI (cc - 1 - 1)).toNatClampNeg (vp_nar .byte (kf_DT (-(x)).toNatClampNeg))) (nI (cc - 1 - 1 - 1)).toNatClampNeg (vp_nar .byte ((45 : Int32))))))]) [0] (by decide) rfl
            refine W.widen (k := 0) (n := 0) (Nat.le_of_ble_eq_true rfl) (Nat.le_of_ble_eq_true rfl) ?_
            exact W.iret (v := nI (cc - 1 - 1 - 1)) hx hb hr (fun t ht hW => ⟨⟨_, upd (upd (upd (fx) (nI (cc - 1)).toNatClampNeg (vp_nar .byte (kf_DO (-(x)).toNatClampNeg))) (nI (cc - 1 - 1)).toNatClampNeg (vp_nar .byte (kf_DT (-(x)).toNatClampNeg))) (nI (cc - 1 - 1 - 1)).toNatClampNeg (vp_nar .byte ((45 : Int32))), rfl, ⟨⟨_, rfl⟩, (ky_fitU (ky_fitU (ky_fitU hfx _ (ky_fitN _)) _ (ky_fitN _)) _ (ky_fitN _))⟩, by rw [ht]; exact hP9, hD9, trivial⟩, hS.F ht⟩) hS.2.2 dc_J13_getChars_11360_194
      · skip
        have h100 := ky_ge100I hv c_0
        have hd9 := ky_d100 h100 (ky_vI hv)
        have hd8 := ky_d1 (v / 100)
        have hr9 := ky_rem100I hv
        refine lv_iload hx hb dc_J13_getChars_11360_93 (lv_at hl 3 rfl) ?_
        refine lv_bipush (v := 100) hx hb dc_J13_getChars_11360_95 (by decide) ?_
        refine lv_idiv hx hb dc_J13_getChars_11360_97 (by decide) ?_
        refine lv_istore (lv' := [(9, .int ((x) / ((100 : Int32)))), (3, .ref da), (7, .int (nI (cc))), (8, .int (fl)), (10, .int (x))]) hx hb dc_J13_getChars_11360_98 hl (by decide) rfl (fun ls hl => ?_)
        refine lv_iload hx hb dc_J13_getChars_11360_100 (lv_at hl 0 rfl) ?_
        refine lv_bipush (v := 100) hx hb dc_J13_getChars_11360_102 (by decide) ?_
        refine lv_imul hx hb dc_J13_getChars_11360_104 ?_
        refine lv_iload hx hb dc_J13_getChars_11360_105 (lv_at hl 4 rfl) ?_
        refine lv_isub hx hb dc_J13_getChars_11360_107 ?_
        refine lv_istore (lv' := [(6, .int ((((x) / ((100 : Int32))) * ((100 : Int32))) - (x))), (9, .int ((x) / ((100 : Int32)))), (3, .ref da), (7, .int (nI (cc))), (8, .int (fl)), (10, .int (x))]) hx hb dc_J13_getChars_11360_108 hl (by decide) rfl (fun ls hl => ?_)
        refine lv_iload hx hb dc_J13_getChars_11360_110 (lv_at hl 1 rfl) ?_
        refine lv_istore (lv' := [(10, .int ((x) / ((100 : Int32)))), (6, .int ((((x) / ((100 : Int32))) * ((100 : Int32))) - (x))), (9, .int ((x) / ((100 : Int32)))), (3, .ref da), (7, .int (nI (cc))), (8, .int (fl))]) hx hb dc_J13_getChars_11360_112 hl (by decide) rfl (fun ls hl => ?_)
        refine lv_aload_n hx hb dc_J13_getChars_11360_114 rfl (lv_at hl 3 rfl) ?_
        refine lv_iinc (v := nI (cc - 1)) (lv' := [(7, .int (nI (cc - 1))), (10, .int ((x) / ((100 : Int32)))), (6, .int ((((x) / ((100 : Int32))) * ((100 : Int32))) - (x))), (9, .int ((x) / ((100 : Int32)))), (3, .ref da), (8, .int (fl))]) hx hb dc_J13_getChars_11360_115 hl (k := 4) rfl (ky_pm1 (by omega)) (by decide) rfl (fun ls hl => ?_)
        refine lv_iload hx hb dc_J13_getChars_11360_118 (lv_at hl 0 rfl) ?_
        obtain ⟨t_1, hZ_1, hT_1⟩ := kq_DO hE hfr
        refine va_gets hx hb hZ_1 hS hown (hts _ kw_7_74) (fun _ h9 => h9) dc_J13_getChars_11360_120 ?_
        refine lv_iload hx hb dc_J13_getChars_11360_123 (lv_at hl 2 rfl) ?_
        refine va_tb hx hb hT_1 hS hr9 (v := .int (kf_DO ((((x) / ((100 : Int32))) * ((100 : Int32))) - (x)).toNatClampNeg)) rfl dc_J13_getChars_11360_125 ?_
        refine va_bast hx hb hE.1 hP hD hS 0 0 rfl rfl (vp_in_nI (by omega) (by omega)) dc_J13_getChars_11360_126 (fun H locs hP hD hS => ?_)
        have hP : va_P G.1 kcl [(da, .inl (G.2.1 0, mm, .inl (upd (fx) (nI (cc - 1)).toNatClampNeg (vp_nar .byte (kf_DO ((((x) / ((100 : Int32))) * ((100 : Int32))) - (x)).toNatClampNeg)))))] H := hP
        have hD : va_D A [(da, .inl (G.2.1 0, mm, .inl (upd (fx) (nI (cc - 1)).toNatClampNeg (vp_nar .byte (kf_DO ((((x) / ((100 : Int32))) * ((100 : Int32))) - (x)).toNatClampNeg)))))] := hD
        refine lv_aload_n hx hb dc_J13_getChars_11360_127 rfl (lv_at hl 4 rfl) ?_
        refine lv_iinc (v := nI (cc - 1 - 1)) (lv' := [(7, .int (nI (cc - 1 - 1))), (10, .int ((x) / ((100 : Int32)))), (6, .int ((((x) / ((100 : Int32))) * ((100 : Int32))) - (x))), (9, .int ((x) / ((100 : Int32)))), (3, .ref da), (8, .int (fl))]) hx hb dc_J13_getChars_11360_128 hl (k := 0) rfl (ky_pm1 (by omega)) (by decide) rfl (fun ls hl => ?_)
        refine lv_iload hx hb dc_J13_getChars_11360_131 (lv_at hl 0 rfl) ?_
        obtain ⟨t_2, hZ_2, hT_2⟩ := kq_DT hE hfr
        refine va_gets hx hb hZ_2 hS hown (hts _ kw_7_75) (fun _ h9 => h9) dc_J13_getChars_11360_133 ?_
        refine lv_iload hx hb dc_J13_getChars_11360_136 (lv_at hl 2 rfl) ?_
        refine va_tb hx hb hT_2 hS hr9 (v := .int (kf_DT ((((x) / ((100 : Int32))) * ((100 : Int32))) - (x)).toNatClampNeg)) rfl dc_J13_getChars_11360_138 ?_
        refine va_bast hx hb hE.1 hP hD hS 0 0 rfl rfl (vp_in_nI (by omega) (by omega)) dc_J13_getChars_11360_139 (fun H locs hP hD hS => ?_)
        have hP : va_P G.1 kcl [(da, .inl (G.2.1 0, mm, .inl (upd (upd (fx) (nI (cc - 1)).toNatClampNeg (vp_nar .byte (kf_DO ((((x) / ((100 : Int32))) * ((100 : Int32))) - (x)).toNatClampNeg))) (nI (cc - 1 - 1)).toNatClampNeg (vp_nar .byte (kf_DT ((((x) / ((100 : Int32))) * ((100 : Int32))) - (x)).toNatClampNeg)))))] H := hP
        have hD : va_D A [(da, .inl (G.2.1 0, mm, .inl (upd (upd (fx) (nI (cc - 1)).toNatClampNeg (vp_nar .byte (kf_DO ((((x) / ((100 : Int32))) * ((100 : Int32))) - (x)).toNatClampNeg))) (nI (cc - 1 - 1)).toNatClampNeg (vp_nar .byte (kf_DT ((((x) / ((100 : Int32))) * ((100 : Int32))) - (x)).toNatClampNeg)))))] := hD
        refine lv_goto (tgt := 86) hx hb dc_J13_getChars_11360_140 (by decide) ?_
        refine W.widen (k := 0) (n := 0) (by first | exact Nat.le_refl _ | omega | exact Nat.zero_le _) (by first | exact Nat.le_refl _ | omega | exact Nat.zero_le _) ?_
        exact ih ((x) / ((100 : Int32))) (v / 100) (cc - 1 - 1) (upd (upd (fx) (nI (cc - 1)).toNatClampNeg (vp_nar .byte (kf_DO ((((x) / ((100 : Int32))) * ((100 : Int32))) - (x)).toNatClampNeg))) (nI (cc - 1 - 1)).toNatClampNeg (vp_nar .byte (kf_DT ((((x) / ((100 : Int32))) * ((100 : Int32))) - (x)).toNatClampNeg))) fl (ky_div100I hv) (by omega) (by omega) (by omega) (ky_fitU (ky_fitU hfx _ (ky_fitN _)) _ (ky_fitN _)) _ _ (hP.sub (ws' := [(da, .inl (G.2.1 0, mm, .inl (upd (upd (fx) (nI (cc - 1)).toNatClampNeg (vp_nar .byte (kf_DO ((((x) / ((100 : Int32))) * ((100 : Int32))) - (x)).toNatClampNeg))) (nI (cc - 1 - 1)).toNatClampNeg (vp_nar .byte (kf_DT ((((x) / ((100 : Int32))) * ((100 : Int32))) - (x)).toNatClampNeg)))))]) [0] rfl) (hD.sub (ws' := [(da, .inl (G.2.1 0, mm, .inl (upd (upd (fx) (nI (cc - 1)).toNatClampNeg (vp_nar .byte (kf_DO ((((x) / ((100 : Int32))) * ((100 : Int32))) - (x)).toNatClampNeg))) (nI (cc - 1 - 1)).toNatClampNeg (vp_nar .byte (kf_DT ((((x) / ((100 : Int32))) * ((100 : Int32))) - (x)).toNatClampNeg)))))]) [0] (by decide) rfl) hS  _ (lv_sub hl [4, 0, 5, 1] rfl)
set_option linter.constructorNameAsVariable false in
set_option maxHeartbeats 4000000 in
set_option maxRecDepth 100000 in
theorem ml_J13_getChars_11360_L24 {p : Program} {l : Launch} {e : Env} {s : State} {m : MethodId} {args : Array Value} {below : List Frame} {meth : Method} {c : Code} {G : ky_G} {A : Nat → Prop} {da : Nat} {mm : Nat} {ix : Nat} {f : Nat → Int32} {a0 : Int64} (F : ky_F p s m meth c my_J13_getChars_11360.cls prog_19_method_14_code 11 (some .int) args) (hE : ky_E G s) (hA : ∀ q, s.heap.size ≤ q → A q) (hfr : ∀ q, A q → ky_fr G q)  (hmm : mm < 2 ^ 20) : ∀ (n9 : Nat) (x : Int64) (v : Nat) (cc : Nat) (fx : Nat → Int32) (fl : Int32) (hv : x.toInt = -(v : Int)) (hn : ky_d v ≤ n9) (hc : ky_d v + (if fl = 0 then 0 else 1) ≤ cc) (hcm : cc ≤ mm) (hfx : ky_fit fx) (H : Heap) (locs : List Loc), va_P G.1 kcl [(da, .inl (G.2.1 0, mm, .inl (fx)))] H → va_D A [(da, .inl (G.2.1 0, mm, .inl (fx)))] → va_S A s.heap H locs →  ∀ ls : Array Slot, lv_has ls 11 [(0, .long (x)), (3, .ref da), (7, .int (nI (cc))), (8, .int (fl))] → W p l e { frames := 0, cells := 0, slots := 0, locals := 0 } s m args below meth c H locs (0) (0) (MQ below (ky_Q (S := Nat → Int32) G A (fun v u => (∃ z, v = some (.int z)) ∧ ky_fit u) (fun u => [(da, .inl (G.2.1 0, mm, .inl u))]) (fun _ _ => True)) args s (0) (0) A) (F0 m 24 ls []) := by
  obtain ⟨hx, hb, hml, hown, hr, hlocks, hts⟩ := id F
  intro n9
  induction n9 with
  | zero => intro x v cc fx fl hv hn hc hcm hfx; exact False.elim (by have := ky_d1 v; omega)
  | succ n9 ih =>
      intro x v cc fx fl hv hn hc hcm hfx H locs hP hD hS  ls hl
      refine lv_lload_n hx hb dc_J13_getChars_11360_24 rfl (lv_at hl 0 rfl) ?_
      refine lv_ldc2 (v := (-2147483648)) hx hb hown (hts _ kw_7_72) dc_J13_getChars_11360_25 ?_
      refine W.lcmp hx hb dc_J13_getChars_11360_28 ?_
      refine lv_if_gt (tgt := 82) hx hb dc_J13_getChars_11360_29 (by decide) (fun c_0 => ?_) (fun c_0 => ?_)
      · skip
        refine lv_lload_n hx hb dc_J13_getChars_11360_82 rfl (lv_at hl 0 rfl) ?_
        refine lv_l2i (v := (x).toInt32) hx hb dc_J13_getChars_11360_83 rfl ?_
        refine lv_istore (lv' := [(10, .int ((x).toInt32)), (0, .long (x)), (3, .ref da), (7, .int (nI (cc))), (8, .int (fl))]) hx hb dc_J13_getChars_11360_84 hl (by decide) rfl (fun ls hl => ?_)
        refine W.widen (k := 0) (n := 0) (by first | exact Nat.le_refl _ | omega | exact Nat.zero_le _) (by first | exact Nat.le_refl _ | omega | exact Nat.zero_le _) ?_
        exact ml_J13_getChars_11360_L86 (da := da) (mm := mm) (ix := ix) (f := f) (a0 := a0) F hE hA hfr  hmm (ky_d v) (x).toInt32 v cc fx fl (ky_lJ hv c_0) (Nat.le_refl _) hc hcm hfx _ _ (hP.sub (ws' := [(da, .inl (G.2.1 0, mm, .inl (fx)))]) [0] rfl) (hD.sub (ws' := [(da, .inl (G.2.1 0, mm, .inl (fx)))]) [0] (by decide) rfl) hS  _ (lv_sub hl [2, 3, 4, 0] rfl)
      · skip
        have h100 := ky_gJ hv c_0
        have hd9 := ky_d100 h100 (ky_vJ hv)
        have hd8 := ky_d1 (v / 100)
        have hr9 := ky_rem100J hv
        refine lv_lload_n hx hb dc_J13_getChars_11360_32 rfl (lv_at hl 0 rfl) ?_
        refine lv_ldc2 (v := 100) hx hb hown (hts _ kw_7_73) dc_J13_getChars_11360_33 ?_
        refine lv_ldiv hx hb dc_J13_getChars_11360_36 (by decide) ?_
        refine lv_lstore (lv' := [(4, .long ((x) / ((100 : Int64)))), (0, .long (x)), (3, .ref da), (7, .int (nI (cc))), (8, .int (fl))]) hx hb dc_J13_getChars_11360_37 hl (by decide) rfl (fun ls hl => ?_)
        refine lv_lload hx hb dc_J13_getChars_11360_39 (lv_at hl 0 rfl) ?_
        refine lv_ldc2 (v := 100) hx hb hown (hts _ kw_7_73) dc_J13_getChars_11360_41 ?_
        refine lv_lmul hx hb dc_J13_getChars_11360_44 ?_
        refine lv_lload_n hx hb dc_J13_getChars_11360_45 rfl (lv_at hl 1 rfl) ?_
        refine lv_lsub hx hb dc_J13_getChars_11360_46 ?_
        refine lv_l2i (v := ((((x) / ((100 : Int64))) * ((100 : Int64))) - (x)).toInt32) hx hb dc_J13_getChars_11360_47 rfl ?_
        refine lv_istore (lv' := [(6, .int (((((x) / ((100 : Int64))) * ((100 : Int64))) - (x)).toInt32)), (4, .long ((x) / ((100 : Int64)))), (0, .long (x)), (3, .ref da), (7, .int (nI (cc))), (8, .int (fl))]) hx hb dc_J13_getChars_11360_48 hl (by decide) rfl (fun ls hl => ?_)
        refine lv_lload hx hb dc_J13_getChars_11360_50 (lv_at hl 1 rfl) ?_
        refine lv_lstore_n (lv' := [(0, .long ((x) / ((100 : Int64)))), (6, .int (((((x) / ((100 : Int64))) * ((100 : Int64))) - (x)).toInt32)), (4, .long ((x) / ((100 : Int64)))), (3, .ref da), (7, .int (nI (cc))), (8, .int (fl))]) hx hb dc_J13_getChars_11360_52 rfl hl (by decide) rfl (fun ls hl => ?_)
        refine lv_aload_n hx hb dc_J13_getChars_11360_53 rfl (lv_at hl 3 rfl) ?_
        refine lv_iinc (v := nI (cc - 1)) (lv' := [(7, .int (nI (cc - 1))), (0, .long ((x) / ((100 : Int64)))), (6, .int (((((x) / ((100 : Int64))) * ((100 : Int64))) - (x)).toInt32)), (4, .long ((x) / ((100 : Int64)))), (3, .ref da), (8, .int (fl))]) hx hb dc_J13_getChars_11360_54 hl (k := 4) rfl (ky_pm1 (by omega)) (by decide) rfl (fun ls hl => ?_)
        refine lv_iload hx hb dc_J13_getChars_11360_57 (lv_at hl 0 rfl) ?_
        obtain ⟨t_1, hZ_1, hT_1⟩ := kq_DO hE hfr
        refine va_gets hx hb hZ_1 hS hown (hts _ kw_7_74) (fun _ h9 => h9) dc_J13_getChars_11360_59 ?_
        refine lv_iload hx hb dc_J13_getChars_11360_62 (lv_at hl 2 rfl) ?_
        refine va_tb hx hb hT_1 hS hr9 (v := .int (kf_DO (((((x) / ((100 : Int64))) * ((100 : Int64))) - (x)).toInt32).toNatClampNeg)) rfl dc_J13_getChars_11360_64 ?_
        refine va_bast hx hb hE.1 hP hD hS 0 0 rfl rfl (vp_in_nI (by omega) (by omega)) dc_J13_getChars_11360_65 (fun H locs hP hD hS => ?_)
        have hP : va_P G.1 kcl [(da, .inl (G.2.1 0, mm, .inl (upd (fx) (nI (cc - 1)).toNatClampNeg (vp_nar .byte (kf_DO (((((x) / ((100 : Int64))) * ((100 : Int64))) - (x)).toInt32).toNatClampNeg)))))] H := hP
        have hD : va_D A [(da, .inl (G.2.1 0, mm, .inl (upd (fx) (nI (cc - 1)).toNatClampNeg (vp_nar .byte (kf_DO (((((x) / ((100 : Int64))) * ((100 : Int64))) - (x)).toInt32).toNatClampNeg)))))] := hD
        refine lv_aload_n hx hb dc_J13_getChars_11360_66 rfl (lv_at hl 4 rfl) ?_
        refine lv_iinc (v := nI (cc - 1 - 1)) (lv' := [(7, .int (nI (cc - 1 - 1))), (0, .long ((x) / ((100 : Int64)))), (6, .int (((((x) / ((100 : Int64))) * ((100 : Int64))) - (x)).toInt32)), (4, .long ((x) / ((100 : Int64)))), (3, .ref da), (8, .int (fl))]) hx hb dc_J13_getChars_11360_67 hl (k := 0) rfl (ky_pm1 (by omega)) (by decide) rfl (fun ls hl => ?_)
        refine lv_iload hx hb dc_J13_getChars_11360_70 (lv_at hl 0 rfl) ?_
        obtain ⟨t_2, hZ_2, hT_2⟩ := kq_DT hE hfr
        refine va_gets hx hb hZ_2 hS hown (hts _ kw_7_75) (fun _ h9 => h9) dc_J13_getChars_11360_72 ?_
        refine lv_iload hx hb dc_J13_getChars_11360_75 (lv_at hl 2 rfl) ?_
        refine va_tb hx hb hT_2 hS hr9 (v := .int (kf_DT (((((x) / ((100 : Int64))) * ((100 : Int64))) - (x)).toInt32).toNatClampNeg)) rfl dc_J13_getChars_11360_77 ?_
        refine va_bast hx hb hE.1 hP hD hS 0 0 rfl rfl (vp_in_nI (by omega) (by omega)) dc_J13_getChars_11360_78 (fun H locs hP hD hS => ?_)
        have hP : va_P G.1 kcl [(da, .inl (G.2.1 0, mm, .inl (upd (upd (fx) (nI (cc - 1)).toNatClampNeg (vp_nar .byte (kf_DO (((((x) / ((100 : Int64))) * ((100 : Int64))) - (x)).toInt32).toNatClampNeg))) (nI (cc - 1 - 1)).toNatClampNeg (vp_nar .byte (kf_DT (((((x) / ((100 : Int64))) * ((100 : Int64))) - (x)).toInt32).toNatClampNeg)))))] H := hP
        have hD : va_D A [(da, .inl (G.2.1 0, mm, .inl (upd (upd (fx) (nI (cc - 1)).toNatClampNeg (vp_nar .byte (kf_DO (((((x) / ((100 : Int64))) * ((100 : Int64))) - (x)).toInt32).toNatClampNeg))) (nI (cc - 1 - 1)).toNatClampNeg (vp_nar .byte (kf_DT (((((x) / ((100 : Int64))) * ((100 : Int64))) - (x)).toInt32).toNatClampNeg)))))] := hD
        refine lv_goto (tgt := 24) hx hb dc_J13_getChars_11360_79 (by decide) ?_
        refine W.widen (k := 0) (n := 0) (by first | exact Nat.le_refl _ | omega | exact Nat.zero_le _) (by first | exact Nat.le_refl _ | omega | exact Nat.zero_le _) ?_
        exact ih ((x) / ((100 : Int64))) (v / 100) (cc - 1 - 1) (upd (upd (fx) (nI (cc - 1)).toNatClampNeg (vp_nar .byte (kf_DO (((((x) / ((100 : Int64))) * ((100 : Int64))) - (x)).toInt32).toNatClampNeg))) (nI (cc - 1 - 1)).toNatClampNeg (vp_nar .byte (kf_DT (((((x) / ((100 : Int64))) * ((100 : Int64))) - (x)).toInt32).toNatClampNeg))) fl (ky_div100J hv) (by omega) (by omega) (by omega) (ky_fitU (ky_fitU hfx _ (ky_fitN _)) _ (ky_fitN _)) _ _ (hP.sub (ws' := [(da, .inl (G.2.1 0, mm, .inl (upd (upd (fx) (nI (cc - 1)).toNatClampNeg (vp_nar .byte (kf_DO (((((x) / ((100 : Int64))) * ((100 : Int64))) - (x)).toInt32).toNatClampNeg))) (nI (cc - 1 - 1)).toNatClampNeg (vp_nar .byte (kf_DT (((((x) / ((100 : Int64))) * ((100 : Int64))) - (x)).toInt32).toNatClampNeg)))))]) [0] rfl) (hD.sub (ws' := [(da, .inl (G.2.1 0, mm, .inl (upd (upd (fx) (nI (cc - 1)).toNatClampNeg (vp_nar .byte (kf_DO (((((x) / ((100 : Int64))) * ((100 : Int64))) - (x)).toInt32).toNatClampNeg))) (nI (cc - 1 - 1)).toNatClampNeg (vp_nar .byte (kf_DT (((((x) / ((100 : Int64))) * ((100 : Int64))) - (x)).toInt32).toNatClampNeg)))))]) [0] (by decide) rfl) hS  _ (lv_sub hl [1, 4, 0, 5] rfl)
set_option linter.constructorNameAsVariable false in
set_option maxHeartbeats 4000000 in
set_option maxRecDepth 100000 in
theorem mt_J13_getChars_11360 (l : Launch) (G : ky_G) (da : Nat) (mm : Nat) (ix : Nat) (f : Nat → Int32) (a0 : Int64) (sz : Nat) (hi : ky_szJ a0 ≤ ix) (hix : ix ≤ mm) (hmm : mm < 2 ^ 20) (hf : ky_fit f) : Met l my_J13_getChars_11360 (.code my_J13_getChars_11360 prog_19_method_14_code 11 (some .int) :: ky_B) { frames := 0, cells := 0, slots := 0, locals := 0 } (ky_P G [.long (a0), .int (nI (ix)), .ref da] ([(da, .inl (G.2.1 0, mm, .inl f))]) sz (fun _ => True)) (ky_Q (S := Nat → Int32) G (va_A ([(da, .inl (G.2.1 0, mm, .inl f))]) sz) (fun v u => (∃ z, v = some (.int z)) ∧ ky_fit u) (fun u => [(da, .inl (G.2.1 0, mm, .inl u))]) (fun _ _ => True)) (0) (0) (va_A ([(da, .inl (G.2.1 0, mm, .inl f))]) sz) := by
  refine ky_start (by decide) (Nat.le_of_ble_eq_true rfl) (fun p e s m below meth c F hE A hAe hsz hA hfr hP hD hS hX ls hl => ?_)
  obtain ⟨hx, hb, hml, hown, hr, hlocks, hts⟩ := id F
  have hl : lv_has ls 11 [(0, .long (a0)), (2, .int (nI (ix))), (3, .ref da)] := hl
  have hP : va_P G.1 kcl [(da, .inl (G.2.1 0, mm, .inl (f)))] s.heap := hP
  have hD : va_D A [(da, .inl (G.2.1 0, mm, .inl (f)))] := hD
  refine lv_iload_n hx hb dc_J13_getChars_11360_0 rfl (lv_at hl 1 rfl) ?_
  refine lv_istore (lv' := [(7, .int (nI (ix))), (0, .long (a0)), (2, .int (nI (ix))), (3, .ref da)]) hx hb dc_J13_getChars_11360_1 hl (by decide) rfl (fun ls hl => ?_)
  refine lv_lload_n hx hb dc_J13_getChars_11360_3 rfl (lv_at hl 1 rfl) ?_
  refine lv_lconst (v := 0) hx hb dc_J13_getChars_11360_4 (by decide) ?_
  refine W.lcmp hx hb dc_J13_getChars_11360_5 ?_
  refine lv_if_ge (tgt := 13) hx hb dc_J13_getChars_11360_6 (by decide) (fun c_0 => ?_) (fun c_0 => ?_)
  · skip
    refine lv_iconst (v := 0) hx hb dc_J13_getChars_11360_13 (by decide) ?_
    refine lv_istore (lv' := [(8, .int ((0 : Int32))), (7, .int (nI (ix))), (0, .long (a0)), (2, .int (nI (ix))), (3, .ref da)]) hx hb dc_J13_getChars_11360_14 hl (by decide) rfl (fun ls hl => ?_)
    refine lv_iload hx hb dc_J13_getChars_11360_16 (lv_at hl 0 rfl) ?_
    refine lv_if_ne (tgt := 24) hx hb dc_J13_getChars_11360_18 (by decide) (fun c_1 => absurd c_1 (by decide)) (fun _ => ?_)
    refine lv_lload_n hx hb dc_J13_getChars_11360_21 rfl (lv_at hl 2 rfl) ?_
    refine lv_lneg hx hb dc_J13_getChars_11360_22 ?_
    refine lv_lstore_n (lv' := [(0, .long (-(a0))), (8, .int ((0 : Int32))), (7, .int (nI (ix))), (2, .int (nI (ix))), (3, .ref da)]) hx hb dc_J13_getChars_11360_23 rfl hl (by decide) rfl (fun ls hl => ?_)
    have hs9 : ¬ a0 < 0 := Int64.not_lt.mpr ((lg_cmp_ge _ _).mp c_0)
    have hi2 := hi
    unfold ky_szJ at hi2
    rw [if_neg hs9] at hi2
    refine W.widen (k := 0) (n := 0) (by first | exact Nat.le_refl _ | omega | exact Nat.zero_le _) (by first | exact Nat.le_refl _ | omega | exact Nat.zero_le _) ?_
    exact ml_J13_getChars_11360_L24 (da := da) (mm := mm) (ix := ix) (f := f) (a0 := a0) F hE hA hfr  hmm (ky_d a0.toInt.natAbs) (-(a0)) a0.toInt.natAbs ix f (0 : Int32) (ky_absJ.2 hs9) (Nat.le_refl _) hi2 hix hf _ _ (hP.sub (ws' := [(da, .inl (G.2.1 0, mm, .inl (f)))]) [0] rfl) (hD.sub (ws' := [(da, .inl (G.2.1 0, mm, .inl (f)))]) [0] (by decide) rfl) hS  _ (lv_sub hl [0, 4, 2, 1] rfl)
  · skip
    refine lv_iconst (v := 1) hx hb dc_J13_getChars_11360_9 (by decide) ?_
    refine lv_goto (tgt := 14) hx hb dc_J13_getChars_11360_10 (by decide) ?_
    refine lv_istore (lv' := [(8, .int ((1 : Int32))), (7, .int (nI (ix))), (0, .long (a0)), (2, .int (nI (ix))), (3, .ref da)]) hx hb dc_J13_getChars_11360_14 hl (by decide) rfl (fun ls hl => ?_)
    refine lv_iload hx hb dc_J13_getChars_11360_16 (lv_at hl 0 rfl) ?_
    refine lv_if_ne (tgt := 24) hx hb dc_J13_getChars_11360_18 (by decide) (fun _ => ?_) (fun c_1 => absurd c_1 (by decide))
    have hs9 : a0 < 0 := Int64.not_le.mp (fun z => c_0 ((lg_cmp_ge _ _).mpr z))
    have hi2 := hi
    unfold ky_szJ at hi2
    rw [if_pos hs9] at hi2
    refine W.widen (k := 0) (n := 0) (by first | exact Nat.le_refl _ | omega | exact Nat.zero_le _) (by first | exact Nat.le_refl _ | omega | exact Nat.zero_le _) ?_
    exact ml_J13_getChars_11360_L24 (da := da) (mm := mm) (ix := ix) (f := f) (a0 := a0) F hE hA hfr  hmm (ky_d a0.toInt.natAbs) a0 a0.toInt.natAbs ix f (1 : Int32) (ky_absJ.1 hs9) (Nat.le_refl _) hi2 hix hf _ _ (hP.sub (ws' := [(da, .inl (G.2.1 0, mm, .inl (f)))]) [0] rfl) (hD.sub (ws' := [(da, .inl (G.2.1 0, mm, .inl (f)))]) [0] (by decide) rfl) hS  _ (lv_sub hl [2, 4, 1, 0] rfl)
set_option linter.constructorNameAsVariable false in
set_option maxHeartbeats 4000000 in
set_option maxRecDepth 100000 in
theorem mt_J5_append_c97b9 (l : Launch) (G : ky_G) (b : Nat) (va : Nat) (mm : Nat) (n : Nat) (f : Nat → Int32) (ml : Int32) (a1 : Int32) (sz : Nat) (hm : ky_m2 mm) (hf : ky_fit f) (hq : n + ky_szI a1 ≤ 34) : Met l my_J5_append_c97b9 (.code my_J5_append_c97b9 prog_12_method_32_code 4 (Option.some (Jvm.ClassFile.FieldType.object "java/lang/AbstractStringBuilder")) :: ky_B) { frames := 4, cells := ky_gc mm (n + ky_szI a1), slots := ky_gs mm (n + ky_szI a1), locals := 84 } (ky_P G [.ref b, .int (a1)] (ky_WT G b va mm n f ml) sz (fun _ => True)) (ky_Q (S := Nat × (Nat → Int32)) G (va_A (ky_WT G b va mm n f ml) sz) (fun v u => v = some (.ref b) ∧ ky_fit u.2) (fun u => ky_WT G b u.1 (ky_cap mm (n + ky_szI a1)) (n + ky_szI a1) u.2 ml) (fun _ _ => True)) (ky_gc mm (n + ky_szI a1)) (ky_gs mm (n + ky_szI a1)) (va_A (ky_WT G b va mm n f ml) sz) := by
  refine ky_start (by decide) (Nat.le_of_ble_eq_true rfl) (fun p e s m below meth c F hE A hAe hsz hA hfr hP hD hS hX ls hl => ?_)
  obtain ⟨hx, hb, hml, hown, hr, hlocks, hts⟩ := id F
  have hl : lv_has ls 4 [(0, .ref b), (1, .int (a1))] := hl
  have hP : va_P G.1 kcl [(b, .inr (6, [.ref va, .int (0), .int (ml), .int (nI (n))])), (va, .inl (G.2.1 0, mm, .inl (f)))] s.heap := hP
  have hD : va_D A [(b, .inr (6, [.ref va, .int (0), .int (ml), .int (nI (n))])), (va, .inl (G.2.1 0, mm, .inl (f)))] := hD
  refine lv_aload_n hx hb dc_J5_append_c97b9_0 rfl (lv_at hl 0 rfl) ?_
  refine va_get (D := G.1) (ci := 6) (v := .int (nI (n))) (C := RJ4) (T := TJ4) (N := 4) hx hb hts ki_J4 hown hE.1 hP 0 rfl rfl 3 (by decide) (hts _ kw_1_66) (fun _ h9 => h9) rfl dc_J5_append_c97b9_1 ?_
  refine lv_istore_n (lv' := [(2, .int (nI (n))), (0, .ref b), (1, .int (a1))]) hx hb dc_J5_append_c97b9_4 rfl hl (by decide) rfl (fun ls hl => ?_)
  refine lv_iload_n hx hb dc_J5_append_c97b9_5 rfl (lv_at hl 0 rfl) ?_
  refine lv_iload_n hx hb dc_J5_append_c97b9_6 rfl (lv_at hl 2 rfl) ?_
  refine ky_cSh (As := [.int (a1)]) (wr := [(b, .inr (6, [.ref va, .int (0), .int (ml), .int (nI (n))])), (va, .inl (G.2.1 0, mm, .inl (f)))]) F (hE.at hfr hS) hfr (mt_J6_stringSize_0f7a4 l G a1 s.heap.size ) ks_J5_245 ⟨⟨rfl, rfl⟩, Nat.le_of_ble_eq_true rfl, Nat.le_of_ble_eq_true rfl⟩ rfl hl.1 rfl (Nat.le_of_ble_eq_true rfl) ⟨by show (_ : Nat) ≤ ky_gc mm (n + ky_szI a1); omega, by show (_ : Nat) ≤ ky_gs mm (n + ky_szI a1); omega⟩ trivial hP hD hS hA [] [0, 1] rfl rfl (by decide) (by decide) (by decide) dc_J5_append_c97b9_7 ?_
  rintro v9 u9 H locs rfl hP hD hS - hz hk9
  have hP : va_P G.1 kcl [(b, .inr (6, [.ref va, .int (0), .int (ml), .int (nI (n))])), (va, .inl (G.2.1 0, mm, .inl (f)))] H := hP
  have hD : va_D A [(b, .inr (6, [.ref va, .int (0), .int (ml), .int (nI (n))])), (va, .inl (G.2.1 0, mm, .inl (f)))] := hD
  refine W.widen (k := 0) (n := 0) (by first | exact Nat.le_refl _ | omega) (by first | exact Nat.le_refl _ | omega) ?_
  refine lv_iadd hx hb dc_J5_append_c97b9_10 ?_
  rw [show (((nI (n)) + (nI (ky_szI (a1)))) : Int32) = nI (n + ky_szI a1) from nI_add _ _]
  refine lv_istore_n (lv' := [(3, .int (nI (n + ky_szI a1))), (2, .int (nI (n))), (0, .ref b), (1, .int (a1))]) hx hb dc_J5_append_c97b9_11 rfl hl (by decide) rfl (fun ls hl => ?_)
  refine lv_aload_n hx hb dc_J5_append_c97b9_12 rfl (lv_at hl 2 rfl) ?_
  refine lv_iload_n hx hb dc_J5_append_c97b9_13 rfl (lv_at hl 0 rfl) ?_
  refine ky_cUh (As := [.int (nI (n + ky_szI a1))]) (wr := []) F (hE.at hfr hS) hfr (mt_J5_ensureCapacityInternal_d00df l G b va mm n f ml (n + ky_szI a1) H.size hm hf (by omega)) (ku_J5_100.cu hE hts ⟨⟨rfl, rfl⟩, Nat.le_of_ble_eq_true rfl, Nat.le_of_ble_eq_true rfl⟩) rfl hl.1 rfl (Nat.le_of_ble_eq_true rfl) ⟨by show (_ : Nat) ≤ ky_gc mm (n + ky_szI a1); omega, by show (_ : Nat) ≤ ky_gs mm (n + ky_szI a1); omega⟩ (va_recv hE.1 hP (ci := 6) (q0 := 0) rfl rfl) trivial hP hD hS hA [0, 1] [] rfl rfl (by decide) (by decide) (by decide) dc_J5_append_c97b9_14 ?_
  rintro v9 ⟨va_1, f_1⟩ H locs ⟨rfl, hf_1⟩ hP hD hS - hz hk9
  have hP : va_P G.1 kcl [(b, .inr (6, [.ref va_1, .int (0), .int (ml), .int (nI (n))])), (va_1, .inl (G.2.1 0, ky_cap mm (n + ky_szI a1), .inl (f_1)))] H := hP
  have hD : va_D A [(b, .inr (6, [.ref va_1, .int (0), .int (ml), .int (nI (n))])), (va_1, .inl (G.2.1 0, ky_cap mm (n + ky_szI a1), .inl (f_1)))] := hD
  refine W.widen (k := (ky_gc mm (n + ky_szI a1))) (n := (ky_gs mm (n + ky_szI a1))) (by first | exact Nat.le_refl _ | omega) (by first | exact Nat.le_refl _ | omega) ?_
  have hle := hm.le hq
  refine lv_aload_n hx hb dc_J5_append_c97b9_17 rfl (lv_at hl 2 rfl) ?_
  refine ky_cUh (As := []) (wr := [(va_1, .inl (G.2.1 0, ky_cap mm (n + ky_szI a1), .inl (f_1)))]) F (hE.at hfr hS) hfr (mt_J5_isLatin1_aae02 l G b va_1 ml (nI (n)) H.size ) (ku_J5_83.cu hts ⟨⟨rfl, rfl⟩, Nat.le_of_ble_eq_true rfl, Nat.le_of_ble_eq_true rfl⟩) rfl hl.1 rfl (Nat.le_of_ble_eq_true rfl) ⟨by show (_ : Nat) ≤ ky_gc mm (n + ky_szI a1); omega, by show (_ : Nat) ≤ ky_gs mm (n + ky_szI a1); omega⟩ (va_recv hE.1 hP (ci := 6) (q0 := 0) rfl rfl) trivial hP hD hS hA [0] [1] rfl rfl (by decide) (by decide) (by decide) dc_J5_append_c97b9_18 ?_
  rintro v9 u9 H locs rfl hP hD hS - hz hk9
  have hP : va_P G.1 kcl [(va_1, .inl (G.2.1 0, ky_cap mm (n + ky_szI a1), .inl (f_1))), (b, .inr (6, [.ref va_1, .int (0), .int (ml), .int (nI (n))]))] H := hP
  have hD : va_D A [(va_1, .inl (G.2.1 0, ky_cap mm (n + ky_szI a1), .inl (f_1))), (b, .inr (6, [.ref va_1, .int (0), .int (ml), .int (nI (n))]))] := hD
  refine W.widen (k := (ky_gc mm (n + ky_szI a1))) (n := (ky_gs mm (n + ky_szI a1))) (by first | exact Nat.le_refl _ | omega) (by first | exact Nat.le_refl _ | omega) ?_
  refine lv_if_eq (tgt := 37) hx hb dc_J5_append_c97b9_21 (by decide) (fun c_3 => absurd c_3 (by decide)) (fun _ => ?_)
  refine lv_iload_n hx hb dc_J5_append_c97b9_24 rfl (lv_at hl 3 rfl) ?_
  refine lv_iload_n hx hb dc_J5_append_c97b9_25 rfl (lv_at hl 0 rfl) ?_
  refine lv_aload_n hx hb dc_J5_append_c97b9_26 rfl (lv_at hl 2 rfl) ?_
  refine va_get (D := G.1) (ci := 6) (v := .ref va_1) (C := RJ4) (T := TJ4) (N := 4) hx hb hts ki_J4 hown hE.1 hP 1 rfl rfl 0 (by decide) (hts _ kw_1_62) (fun _ h9 => h9) rfl dc_J5_append_c97b9_27 ?_
  refine ky_cSh (As := [.int (a1), .int (nI (n + ky_szI a1)), .ref va_1]) (wr := [(b, .inr (6, [.ref va_1, .int (0), .int (ml), .int (nI (n))]))]) F (hE.at hfr hS) hfr (mt_J6_getChars_ba4f3 l G va_1 (ky_cap mm (n + ky_szI a1)) (n + ky_szI a1) f_1 a1 H.size (Nat.le_add_left _ _) hle.1 (by omega) hf_1) ks_J5_248 ⟨⟨rfl, rfl⟩, Nat.le_of_ble_eq_true rfl, Nat.le_of_ble_eq_true rfl⟩ rfl hl.1 rfl (Nat.le_of_ble_eq_true rfl) ⟨by show (_ : Nat) ≤ ky_gc mm (n + ky_szI a1); omega, by show (_ : Nat) ≤ ky_gs mm (n + ky_szI a1); omega⟩ trivial hP hD hS hA [0] [1] rfl rfl (by decide) (by decide) (by decide) dc_J5_append_c97b9_30 ?_
  rintro v9 f_4 H locs ⟨⟨z_4, rfl⟩, hf_4⟩ hP hD hS - hz hk9
  have hP : va_P G.1 kcl [(b, .inr (6, [.ref va_1, .int (0), .int (ml), .int (nI (n))])), (va_1, .inl (G.2.1 0, ky_cap mm (n + ky_szI a1), .inl (f_4)))] H := hP
  have hD : va_D A [(b, .inr (6, [.ref va_1, .int (0), .int (ml), .int (nI (n))])), (va_1, .inl (G.2.1 0, ky_cap mm (n + ky_szI a1), .inl (f_4)))] := hD
  refine W.widen (k := (ky_gc mm (n + ky_szI a1))) (n := (ky_gs mm (n + ky_szI a1))) (by first | exact Nat.le_refl _ | omega) (by first | exact Nat.le_refl _ | omega) ?_
  refine lv_pop hx hb dc_J5_append_c97b9_33 rfl ?_
  refine lv_goto (tgt := 48) hx hb dc_J5_append_c97b9_34 (by decide) ?_
  refine lv_aload_n hx hb dc_J5_append_c97b9_48 rfl (lv_at hl 2 rfl) ?_
  refine lv_iload_n hx hb dc_J5_append_c97b9_49 rfl (lv_at hl 0 rfl) ?_
  refine va_put (D := G.1) (ci := 6) (v := .int (nI (n + ky_szI a1))) (ty := .int) (C := RJ4) (T := TJ4) (N := 4) hx hb hts ki_J4 tyJ4 tyJ4_ok nmJ4 hown hE.1 hP hD hS 0 rfl rfl 3 (by decide) (hts _ kw_1_66) (fun _ h9 => h9) rfl (by decide +kernel) rfl rfl (Nat.le_of_ble_eq_true rfl) dc_J5_append_c97b9_50 (fun H locs hP hD hS => ?_)
  have hP : va_P G.1 kcl [(b, .inr (6, [.ref va_1, .int (0), .int (ml), .int (nI (n + ky_szI a1))])), (va_1, .inl (G.2.1 0, ky_cap mm (n + ky_szI a1), .inl (f_4)))] H := hP
  have hD : va_D A [(b, .inr (6, [.ref va_1, .int (0), .int (ml), .int (nI (n + ky_szI a1))])), (va_1, .inl (G.2.1 0, ky_cap mm (n + ky_szI a1), .inl (f_4)))] := hD
  refine lv_aload_n hx hb dc_J5_append_c97b9_53 rfl (lv_at hl 2 rfl) ?_
  have hP9 := hP.sub (ws' := [(b, .inr (6, [.ref va_1, .int (0), .int (ml), .int (nI (n + ky_szI a1))])), (va_1, .inl (G.2.1 0, ky_cap mm (n + ky_szI a1), .inl (f_4)))]) [0, 1] rfl
  have hD9 := hD.sub (ws' := [(b, .inr (6, [.ref va_1, .int (0), .int (ml), .int (nI (n + ky_szI a1))])), (va_1, .inl (G.2.1 0, ky_cap mm (n + ky_szI a1), .inl (f_4)))]) [0, 1] (by decide) rfl
  refine W.widen (k := ky_gc mm (n + ky_szI a1)) (n := ky_gs mm (n + ky_szI a1)) (by omega) (by omega) ?_
  exact W.aret (v := .ref b) hx hb hr (Or.inl ⟨_, rfl⟩) (Or.inr ⟨_, rfl⟩) (fun t ht hW => ⟨⟨_, (va_1, f_4), rfl, ⟨rfl, hf_4⟩, by rw [ht]; exact hP9, hD9, trivial⟩, hS.F ht⟩) hS.2.2 dc_J5_append_c97b9_54
set_option linter.constructorNameAsVariable false in
set_option maxHeartbeats 4000000 in
set_option maxRecDepth 100000 in
theorem mt_J4_append_bf812 (l : Launch) (G : ky_G) (b : Nat) (va : Nat) (mm : Nat) (n : Nat) (f : Nat → Int32) (ml : Int32) (a1 : Int32) (sz : Nat) (hm : ky_m2 mm) (hf : ky_fit f) (hq : n + ky_szI a1 ≤ 34) : Met l my_J4_append_bf812 (.code my_J4_append_bf812 prog_23_method_15_code 2 (Option.some (Jvm.ClassFile.FieldType.object "java/lang/StringBuilder")) :: ky_B) { frames := 5, cells := ky_gc mm (n + ky_szI a1), slots := ky_gs mm (n + ky_szI a1), locals := 107 } (ky_P G [.ref b, .int (a1)] (ky_WT G b va mm n f ml) sz (fun _ => True)) (ky_Q (S := Nat × (Nat → Int32)) G (va_A (ky_WT G b va mm n f ml) sz) (fun v u => v = some (.ref b) ∧ ky_fit u.2) (fun u => ky_WT G b u.1 (ky_cap mm (n + ky_szI a1)) (n + ky_szI a1) u.2 ml) (fun _ _ => True)) (ky_gc mm (n + ky_szI a1)) (ky_gs mm (n + ky_szI a1)) (va_A (ky_WT G b va mm n f ml) sz) := by
  refine ky_start (by decide) (Nat.le_of_ble_eq_true rfl) (fun p e s m below meth c F hE A hAe hsz hA hfr hP hD hS hX ls hl => ?_)
  obtain ⟨hx, hb, hml, hown, hr, hlocks, hts⟩ := id F
  have hl : lv_has ls 2 [(0, .ref b), (1, .int (a1))] := hl
  have hP : va_P G.1 kcl [(b, .inr (6, [.ref va, .int (0), .int (ml), .int (nI (n))])), (va, .inl (G.2.1 0, mm, .inl (f)))] s.heap := hP
  have hD : va_D A [(b, .inr (6, [.ref va, .int (0), .int (ml), .int (nI (n))])), (va, .inl (G.2.1 0, mm, .inl (f)))] := hD
  refine lv_aload_n hx hb dc_J4_append_bf812_0 rfl (lv_at hl 0 rfl) ?_
  refine lv_iload_n hx hb dc_J4_append_bf812_1 rfl (lv_at hl 1 rfl) ?_
  refine ky_cWh (ci := 6) (As := [.int (a1)]) (wr := []) F (hE.at hfr hS) hfr hE.1 rfl (mt_J5_append_c97b9 l G b va mm n f ml a1 s.heap.size hm hf hq) ku_J4_53 ⟨⟨rfl, rfl⟩, Nat.le_of_ble_eq_true rfl, Nat.le_of_ble_eq_true rfl⟩ rfl hl.1 rfl (Nat.le_of_ble_eq_true rfl) ⟨by show (_ : Nat) ≤ ky_gc mm (n + ky_szI a1); omega, by show (_ : Nat) ≤ ky_gs mm (n + ky_szI a1); omega⟩ (va_recv hE.1 hP (ci := 6) (q0 := 0) rfl rfl) trivial hP hD hS hA [0, 1] [] rfl rfl (by decide) (by decide) (by decide) dc_J4_append_bf812_2 ?_
  rintro v9 ⟨va_0, f_0⟩ H locs ⟨rfl, hf_0⟩ hP hD hS - hz hk9
  have hP : va_P G.1 kcl [(b, .inr (6, [.ref va_0, .int (0), .int (ml), .int (nI (n + ky_szI a1))])), (va_0, .inl (G.2.1 0, ky_cap mm (n + ky_szI a1), .inl (f_0)))] H := hP
  have hD : va_D A [(b, .inr (6, [.ref va_0, .int (0), .int (ml), .int (nI (n + ky_szI a1))])), (va_0, .inl (G.2.1 0, ky_cap mm (n + ky_szI a1), .inl (f_0)))] := hD
  refine W.widen (k := (ky_gc mm (n + ky_szI a1))) (n := (ky_gs mm (n + ky_szI a1))) (by first | exact Nat.le_refl _ | omega) (by first | exact Nat.le_refl _ | omega) ?_
  refine lv_pop hx hb dc_J4_append_bf812_5 rfl ?_
  refine lv_aload_n hx hb dc_J4_append_bf812_6 rfl (lv_at hl 0 rfl) ?_
  have hP9 := hP.sub (ws' := [(b, .inr (6, [.ref va_0, .int (0), .int (ml), .int (nI (n + ky_szI a1))])), (va_0, .inl (G.2.1 0, ky_cap mm (n + ky_szI a1), .inl (f_0)))]) [0, 1] rfl
  have hD9 := hD.sub (ws' := [(b, .inr (6, [.ref va_0, .int (0), .int (ml), .int (nI (n + ky_szI a1))])), (va_0, .inl (G.2.1 0, ky_cap mm (n + ky_szI a1), .inl (f_0)))]) [0, 1] (by decide) rfl
  refine W.widen (k := ky_gc mm (n + ky_szI a1)) (n := ky_gs mm (n + ky_szI a1)) (by omega) (by omega) ?_
  exact W.aret (v := .ref b) hx hb hr (Or.inl ⟨_, rfl⟩) (Or.inr ⟨_, rfl⟩) (fun t ht hW => ⟨⟨_, (va_0, f_0), rfl, ⟨rfl, hf_0⟩, by rw [ht]; exact hP9, hD9, trivial⟩, hS.F ht⟩) hS.2.2 dc_J4_append_bf812_7
set_option linter.constructorNameAsVariable false in
set_option maxHeartbeats 4000000 in
set_option maxRecDepth 100000 in
theorem mt_J5_append_66267 (l : Launch) (G : ky_G) (b : Nat) (va : Nat) (mm : Nat) (n : Nat) (f : Nat → Int32) (ml : Int32) (a1 : Int64) (sz : Nat) (hm : ky_m2 mm) (hf : ky_fit f) (hq : n + ky_szJ a1 ≤ 34) : Met l my_J5_append_66267 (.code my_J5_append_66267 prog_12_method_33_code 5 (Option.some (Jvm.ClassFile.FieldType.object "java/lang/AbstractStringBuilder")) :: ky_B) { frames := 4, cells := ky_gc mm (n + ky_szJ a1), slots := ky_gs mm (n + ky_szJ a1), locals := 84 } (ky_P G [.ref b, .long (a1)] (ky_WT G b va mm n f ml) sz (fun _ => True)) (ky_Q (S := Nat × (Nat → Int32)) G (va_A (ky_WT G b va mm n f ml) sz) (fun v u => v = some (.ref b) ∧ ky_fit u.2) (fun u => ky_WT G b u.1 (ky_cap mm (n + ky_szJ a1)) (n + ky_szJ a1) u.2 ml) (fun _ _ => True)) (ky_gc mm (n + ky_szJ a1)) (ky_gs mm (n + ky_szJ a1)) (va_A (ky_WT G b va mm n f ml) sz) := by
  refine ky_start (by decide) (Nat.le_of_ble_eq_true rfl) (fun p e s m below meth c F hE A hAe hsz hA hfr hP hD hS hX ls hl => ?_)
  obtain ⟨hx, hb, hml, hown, hr, hlocks, hts⟩ := id F
  have hl : lv_has ls 5 [(0, .ref b), (1, .long (a1))] := hl
  have hP : va_P G.1 kcl [(b, .inr (6, [.ref va, .int (0), .int (ml), .int (nI (n))])), (va, .inl (G.2.1 0, mm, .inl (f)))] s.heap := hP
  have hD : va_D A [(b, .inr (6, [.ref va, .int (0), .int (ml), .int (nI (n))])), (va, .inl (G.2.1 0, mm, .inl (f)))] := hD
  refine lv_aload_n hx hb dc_J5_append_66267_0 rfl (lv_at hl 0 rfl) ?_
  refine va_get (D := G.1) (ci := 6) (v := .int (nI (n))) (C := RJ4) (T := TJ4) (N := 4) hx hb hts ki_J4 hown hE.1 hP 0 rfl rfl 3 (by decide) (hts _ kw_1_66) (fun _ h9 => h9) rfl dc_J5_append_66267_1 ?_
  refine lv_istore_n (lv' := [(3, .int (nI (n))), (0, .ref b), (1, .long (a1))]) hx hb dc_J5_append_66267_4 rfl hl (by decide) rfl (fun ls hl => ?_)
  refine lv_iload_n hx hb dc_J5_append_66267_5 rfl (lv_at hl 0 rfl) ?_
  refine lv_lload_n hx hb dc_J5_append_66267_6 rfl (lv_at hl 2 rfl) ?_
  refine ky_cSh (As := [.long (a1)]) (wr := [(b, .inr (6, [.ref va, .int (0), .int (ml), .int (nI (n))])), (va, .inl (G.2.1 0, mm, .inl (f)))]) F (hE.at hfr hS) hfr (mt_J13_stringSize_95d88 l G a1 s.heap.size ) ks_J5_254 ⟨⟨rfl, rfl⟩, Nat.le_of_ble_eq_true rfl, Nat.le_of_ble_eq_true rfl⟩ rfl hl.1 rfl (Nat.le_of_ble_eq_true rfl) ⟨by show (_ : Nat) ≤ ky_gc mm (n + ky_szJ a1); omega, by show (_ : Nat) ≤ ky_gs mm (n + ky_szJ a1); omega⟩ trivial hP hD hS hA [] [0, 1] rfl rfl (by decide) (by decide) (by decide) dc_J5_append_66267_7 ?_
  rintro v9 u9 H locs rfl hP hD hS - hz hk9
  have hP : va_P G.1 kcl [(b, .inr (6, [.ref va, .int (0), .int (ml), .int (nI (n))])), (va, .inl (G.2.1 0, mm, .inl (f)))] H := hP
  have hD : va_D A [(b, .inr (6, [.ref va, .int (0), .int (ml), .int (nI (n))])), (va, .inl (G.2.1 0, mm, .inl (f)))] := hD
  refine W.widen (k := 0) (n := 0) (by first | exact Nat.le_refl _ | omega) (by first | exact Nat.le_refl _ | omega) ?_
  refine lv_iadd hx hb dc_J5_append_66267_10 ?_
  rw [show (((nI (n)) + (nI (ky_szJ (a1)))) : Int32) = nI (n + ky_szJ a1) from nI_add _ _]
  refine lv_istore (lv' := [(4, .int (nI (n + ky_szJ a1))), (3, .int (nI (n))), (0, .ref b), (1, .long (a1))]) hx hb dc_J5_append_66267_11 hl (by decide) rfl (fun ls hl => ?_)
  refine lv_aload_n hx hb dc_J5_append_66267_13 rfl (lv_at hl 2 rfl) ?_
  refine lv_iload hx hb dc_J5_append_66267_14 (lv_at hl 0 rfl) ?_
  refine ky_cUh (As := [.int (nI (n + ky_szJ a1))]) (wr := []) F (hE.at hfr hS) hfr (mt_J5_ensureCapacityInternal_d00df l G b va mm n f ml (n + ky_szJ a1) H.size hm hf (by omega)) (ku_J5_100.cu hE hts ⟨⟨rfl, rfl⟩, Nat.le_of_ble_eq_true rfl, Nat.le_of_ble_eq_true rfl⟩) rfl hl.1 rfl (Nat.le_of_ble_eq_true rfl) ⟨by show (_ : Nat) ≤ ky_gc mm (n + ky_szJ a1); omega, by show (_ : Nat) ≤ ky_gs mm (n + ky_szJ a1); omega⟩ (va_recv hE.1 hP (ci := 6) (q0 := 0) rfl rfl) trivial hP hD hS hA [0, 1] [] rfl rfl (by decide) (by decide) (by decide) dc_J5_append_66267_16 ?_
  rintro v9 ⟨va_1, f_1⟩ H locs ⟨rfl, hf_1⟩ hP hD hS - hz hk9
  have hP : va_P G.1 kcl [(b, .inr (6, [.ref va_1, .int (0), .int (ml), .int (nI (n))])), (va_1, .inl (G.2.1 0, ky_cap mm (n + ky_szJ a1), .inl (f_1)))] H := hP
  have hD : va_D A [(b, .inr (6, [.ref va_1, .int (0), .int (ml), .int (nI (n))])), (va_1, .inl (G.2.1 0, ky_cap mm (n + ky_szJ a1), .inl (f_1)))] := hD
  refine W.widen (k := (ky_gc mm (n + ky_szJ a1))) (n := (ky_gs mm (n + ky_szJ a1))) (by first | exact Nat.le_refl _ | omega) (by first | exact Nat.le_refl _ | omega) ?_
  have hle := hm.le hq
  refine lv_aload_n hx hb dc_J5_append_66267_19 rfl (lv_at hl 2 rfl) ?_
  refine ky_cUh (As := []) (wr := [(va_1, .inl (G.2.1 0, ky_cap mm (n + ky_szJ a1), .inl (f_1)))]) F (hE.at hfr hS) hfr (mt_J5_isLatin1_aae02 l G b va_1 ml (nI (n)) H.size ) (ku_J5_83.cu hts ⟨⟨rfl, rfl⟩, Nat.le_of_ble_eq_true rfl, Nat.le_of_ble_eq_true rfl⟩) rfl hl.1 rfl (Nat.le_of_ble_eq_true rfl) ⟨by show (_ : Nat) ≤ ky_gc mm (n + ky_szJ a1); omega, by show (_ : Nat) ≤ ky_gs mm (n + ky_szJ a1); omega⟩ (va_recv hE.1 hP (ci := 6) (q0 := 0) rfl rfl) trivial hP hD hS hA [0] [1] rfl rfl (by decide) (by decide) (by decide) dc_J5_append_66267_20 ?_
  rintro v9 u9 H locs rfl hP hD hS - hz hk9
  have hP : va_P G.1 kcl [(va_1, .inl (G.2.1 0, ky_cap mm (n + ky_szJ a1), .inl (f_1))), (b, .inr (6, [.ref va_1, .int (0), .int (ml), .int (nI (n))]))] H := hP
  have hD : va_D A [(va_1, .inl (G.2.1 0, ky_cap mm (n + ky_szJ a1), .inl (f_1))), (b, .inr (6, [.ref va_1, .int (0), .int (ml), .int (nI (n))]))] := hD
  refine W.widen (k := (ky_gc mm (n + ky_szJ a1))) (n := (ky_gs mm (n + ky_szJ a1))) (by first | exact Nat.le_refl _ | omega) (by first | exact Nat.le_refl _ | omega) ?_
  refine lv_if_eq (tgt := 40) hx hb dc_J5_append_66267_23 (by decide) (fun c_3 => absurd c_3 (by decide)) (fun _ => ?_)
  refine lv_lload_n hx hb dc_J5_append_66267_26 rfl (lv_at hl 3 rfl) ?_
  refine lv_iload hx hb dc_J5_append_66267_27 (lv_at hl 0 rfl) ?_
  refine lv_aload_n hx hb dc_J5_append_66267_29 rfl (lv_at hl 2 rfl) ?_
  refine va_get (D := G.1) (ci := 6) (v := .ref va_1) (C := RJ4) (T := TJ4) (N := 4) hx hb hts ki_J4 hown hE.1 hP 1 rfl rfl 0 (by decide) (hts _ kw_1_62) (fun _ h9 => h9) rfl dc_J5_append_66267_30 ?_
  refine ky_cSh (As := [.long (a1), .int (nI (n + ky_szJ a1)), .ref va_1]) (wr := [(b, .inr (6, [.ref va_1, .int (0), .int (ml), .int (nI (n))]))]) F (hE.at hfr hS) hfr (mt_J13_getChars_11360 l G va_1 (ky_cap mm (n + ky_szJ a1)) (n + ky_szJ a1) f_1 a1 H.size (Nat.le_add_left _ _) hle.1 (by omega) hf_1) ks_J5_259 ⟨⟨rfl, rfl⟩, Nat.le_of_ble_eq_true rfl, Nat.le_of_ble_eq_true rfl⟩ rfl hl.1 rfl (Nat.le_of_ble_eq_true rfl) ⟨by show (_ : Nat) ≤ ky_gc mm (n + ky_szJ a1); omega, by show (_ : Nat) ≤ ky_gs mm (n + ky_szJ a1); omega⟩ trivial hP hD hS hA [0] [1] rfl rfl (by decide) (by decide) (by decide) dc_J5_append_66267_33 ?_
  rintro v9 f_4 H locs ⟨⟨z_4, rfl⟩, hf_4⟩ hP hD hS - hz hk9
  have hP : va_P G.1 kcl [(b, .inr (6, [.ref va_1, .int (0), .int (ml), .int (nI (n))])), (va_1, .inl (G.2.1 0, ky_cap mm (n + ky_szJ a1), .inl (f_4)))] H := hP
  have hD : va_D A [(b, .inr (6, [.ref va_1, .int (0), .int (ml), .int (nI (n))])), (va_1, .inl (G.2.1 0, ky_cap mm (n + ky_szJ a1), .inl (f_4)))] := hD
  refine W.widen (k := (ky_gc mm (n + ky_szJ a1))) (n := (ky_gs mm (n + ky_szJ a1))) (by first | exact Nat.le_refl _ | omega) (by first | exact Nat.le_refl _ | omega) ?_
  refine lv_pop hx hb dc_J5_append_66267_36 rfl ?_
  refine lv_goto (tgt := 52) hx hb dc_J5_append_66267_37 (by decide) ?_
  refine lv_aload_n hx hb dc_J5_append_66267_52 rfl (lv_at hl 2 rfl) ?_
  refine lv_iload hx hb dc_J5_append_66267_53 (lv_at hl 0 rfl) ?_
  refine va_put (D := G.1) (ci := 6) (v := .int (nI (n + ky_szJ a1))) (ty := .int) (C := RJ4) (T := TJ4) (N := 4) hx hb hts ki_J4 tyJ4 tyJ4_ok nmJ4 hown hE.1 hP hD hS 0 rfl rfl 3 (by decide) (hts _ kw_1_66) (fun _ h9 => h9) rfl (by decide +kernel) rfl rfl (Nat.le_of_ble_eq_true rfl) dc_J5_append_66267_55 (fun H locs hP hD hS => ?_)
  have hP : va_P G.1 kcl [(b, .inr (6, [.ref va_1, .int (0), .int (ml), .int (nI (n + ky_szJ a1))])), (va_1, .inl (G.2.1 0, ky_cap mm (n + ky_szJ a1), .inl (f_4)))] H := hP
  have hD : va_D A [(b, .inr (6, [.ref va_1, .int (0), .int (ml), .int (nI (n + ky_szJ a1))])), (va_1, .inl (G.2.1 0, ky_cap mm (n + ky_szJ a1), .inl (f_4)))] := hD
  refine lv_aload_n hx hb dc_J5_append_66267_58 rfl (lv_at hl 2 rfl) ?_
  have hP9 := hP.sub (ws' := [(b, .inr (6, [.ref va_1, .int (0), .int (ml), .int (nI (n + ky_szJ a1))])), (va_1, .inl (G.2.1 0, ky_cap mm (n + ky_szJ a1), .inl (f_4)))]) [0, 1] rfl
  have hD9 := hD.sub (ws' := [(b, .inr (6, [.ref va_1, .int (0), .int (ml), .int (nI (n + ky_szJ a1))])), (va_1, .inl (G.2.1 0, ky_cap mm (n + ky_szJ a1), .inl (f_4)))]) [0, 1] (by decide) rfl
  refine W.widen (k := ky_gc mm (n + ky_szJ a1)) (n := ky_gs mm (n + ky_szJ a1)) (by omega) (by omega) ?_
  exact W.aret (v := .ref b) hx hb hr (Or.inl ⟨_, rfl⟩) (Or.inr ⟨_, rfl⟩) (fun t ht hW => ⟨⟨_, (va_1, f_4), rfl, ⟨rfl, hf_4⟩, by rw [ht]; exact hP9, hD9, trivial⟩, hS.F ht⟩) hS.2.2 dc_J5_append_66267_59
set_option linter.constructorNameAsVariable false in
set_option maxHeartbeats 4000000 in
set_option maxRecDepth 100000 in
theorem mt_J4_append_f7089 (l : Launch) (G : ky_G) (b : Nat) (va : Nat) (mm : Nat) (n : Nat) (f : Nat → Int32) (ml : Int32) (a1 : Int64) (sz : Nat) (hm : ky_m2 mm) (hf : ky_fit f) (hq : n + ky_szJ a1 ≤ 34) : Met l my_J4_append_f7089 (.code my_J4_append_f7089 prog_23_method_16_code 3 (Option.some (Jvm.ClassFile.FieldType.object "java/lang/StringBuilder")) :: ky_B) { frames := 5, cells := ky_gc mm (n + ky_szJ a1), slots := ky_gs mm (n + ky_szJ a1), locals := 108 } (ky_P G [.ref b, .long (a1)] (ky_WT G b va mm n f ml) sz (fun _ => True)) (ky_Q (S := Nat × (Nat → Int32)) G (va_A (ky_WT G b va mm n f ml) sz) (fun v u => v = some (.ref b) ∧ ky_fit u.2) (fun u => ky_WT G b u.1 (ky_cap mm (n + ky_szJ a1)) (n + ky_szJ a1) u.2 ml) (fun _ _ => True)) (ky_gc mm (n + ky_szJ a1)) (ky_gs mm (n + ky_szJ a1)) (va_A (ky_WT G b va mm n f ml) sz) := by
  refine ky_start (by decide) (Nat.le_of_ble_eq_true rfl) (fun p e s m below meth c F hE A hAe hsz hA hfr hP hD hS hX ls hl => ?_)
  obtain ⟨hx, hb, hml, hown, hr, hlocks, hts⟩ := id F
  have hl : lv_has ls 3 [(0, .ref b), (1, .long (a1))] := hl
  have hP : va_P G.1 kcl [(b, .inr (6, [.ref va, .int (0), .int (ml), .int (nI (n))])), (va, .inl (G.2.1 0, mm, .inl (f)))] s.heap := hP
  have hD : va_D A [(b, .inr (6, [.ref va, .int (0), .int (ml), .int (nI (n))])), (va, .inl (G.2.1 0, mm, .inl (f)))] := hD
  refine lv_aload_n hx hb dc_J4_append_f7089_0 rfl (lv_at hl 0 rfl) ?_
  refine lv_lload_n hx hb dc_J4_append_f7089_1 rfl (lv_at hl 1 rfl) ?_
  refine ky_cWh (ci := 6) (As := [.long (a1)]) (wr := []) F (hE.at hfr hS) hfr hE.1 rfl (mt_J5_append_66267 l G b va mm n f ml a1 s.heap.size hm hf hq) ku_J4_56 ⟨⟨rfl, rfl⟩, Nat.le_of_ble_eq_true rfl, Nat.le_of_ble_eq_true rfl⟩ rfl hl.1 rfl (Nat.le_of_ble_eq_true rfl) ⟨by show (_ : Nat) ≤ ky_gc mm (n + ky_szJ a1); omega, by show (_ : Nat) ≤ ky_gs mm (n + ky_szJ a1); omega⟩ (va_recv hE.1 hP (ci := 6) (q0 := 0) rfl rfl) trivial hP hD hS hA [0, 1] [] rfl rfl (by decide) (by decide) (by decide) dc_J4_append_f7089_2 ?_
  rintro v9 ⟨va_0, f_0⟩ H locs ⟨rfl, hf_0⟩ hP hD hS - hz hk9
  have hP : va_P G.1 kcl [(b, .inr (6, [.ref va_0, .int (0), .int (ml), .int (nI (n + ky_szJ a1))])), (va_0, .inl (G.2.1 0, ky_cap mm (n + ky_szJ a1), .inl (f_0)))] H := hP
  have hD : va_D A [(b, .inr (6, [.ref va_0, .int (0), .int (ml), .int (nI (n + ky_szJ a1))])), (va_0, .inl (G.2.1 0, ky_cap mm (n + ky_szJ a1), .inl (f_0)))] := hD
  refine W.widen (k := (ky_gc mm (n + ky_szJ a1))) (n := (ky_gs mm (n + ky_szJ a1))) (by first | exact Nat.le_refl _ | omega) (by first | exact Nat.le_refl _ | omega) ?_
  refine lv_pop hx hb dc_J4_append_f7089_5 rfl ?_
  refine lv_aload_n hx hb dc_J4_append_f7089_6 rfl (lv_at hl 0 rfl) ?_
  have hP9 := hP.sub (ws' := [(b, .inr (6, [.ref va_0, .int (0), .int (ml), .int (nI (n + ky_szJ a1))])), (va_0, .inl (G.2.1 0, ky_cap mm (n + ky_szJ a1), .inl (f_0)))]) [0, 1] rfl
  have hD9 := hD.sub (ws' := [(b, .inr (6, [.ref va_0, .int (0), .int (ml), .int (nI (n + ky_szJ a1))])), (va_0, .inl (G.2.1 0, ky_cap mm (n + ky_szJ a1), .inl (f_0)))]) [0, 1] (by decide) rfl
  refine W.widen (k := ky_gc mm (n + ky_szJ a1)) (n := ky_gs mm (n + ky_szJ a1)) (by omega) (by omega) ?_
  exact W.aret (v := .ref b) hx hb hr (Or.inl ⟨_, rfl⟩) (Or.inr ⟨_, rfl⟩) (fun t ht hW => ⟨⟨_, (va_0, f_0), rfl, ⟨rfl, hf_0⟩, by rw [ht]; exact hP9, hD9, trivial⟩, hS.F ht⟩) hS.2.2 dc_J4_append_f7089_7
