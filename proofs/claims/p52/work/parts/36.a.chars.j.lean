section
set_option linter.constructorNameAsVariable false in
set_option maxHeartbeats 4000000 in
set_option maxRecDepth 100000 in
theorem ml_J6_getChars_ba4f3_L22 {p : Program} {l : Launch} {e : Env} {s : State} {m : MethodId} {args : Array Value} {below : List Frame} {meth : Method} {c : Code} {G : ky_G} {A : Nat → Prop} {da : Nat} {mm : Nat} {ix : Nat} {f : Nat → Int32} {a0 : Int32} (F : ky_F p s m meth c my_J6_getChars_ba4f3.cls prog_18_method_12_code 7 (some .int) args) (hE : ky_E G s) (hA : ∀ q, s.heap.size ≤ q → A q) (hfr : ∀ q, A q → ky_fr G q)  (hmm : mm < 2 ^ 20) : ∀ (n9 : Nat) (x : Int32) (v : Nat) (cc : Nat) (fx : Nat → Int32) (fl : Int32) (hv : x.toInt = -(v : Int)) (hn : ky_d v ≤ n9) (hc : ky_d v + (if fl = 0 then 0 else 1) ≤ cc) (hcm : cc ≤ mm) (hfx : ky_fit fx) (H : Heap) (locs : List Loc), va_P G.1 kcl [(da, .inl (G.2.1 0, mm, .inl (fx)))] H → va_D A [(da, .inl (G.2.1 0, mm, .inl (fx)))] → va_S A s.heap H locs →  ∀ ls : Array Slot, lv_has ls 7 [(0, .int (x)), (2, .ref da), (5, .int (nI (cc))), (6, .int (fl))] → W p l e { frames := 0, cells := 0, slots := 0, locals := 0 } s m args below meth c H locs (0) (0) (MQ below (ky_Q (S := Nat → Int32) G A (fun v u => (∃ z, v = some (.int z)) ∧ ky_fit u) (fun u => [(da, .inl (G.2.1 0, mm, .inl u))]) (fun _ _ => True)) args s (0) (0) A) (F0 m 22 ls []) := by
  obtain ⟨hx, hb, hml, hown, hr, hlocks, hts⟩ := id F
  intro n9
  induction n9 with
  | zero => intro x v cc fx fl hv hn hc hcm hfx; exact False.elim (by have := ky_d1 v; omega)
  | succ n9 ih =>
      intro x v cc fx fl hv hn hc hcm hfx H locs hP hD hS  ls hl
      refine lv_iload_n hx hb dc_J6_getChars_ba4f3_22 rfl (lv_at hl 0 rfl) ?_
      refine lv_bipush (v := (-100)) hx hb dc_J6_getChars_ba4f3_23 (by decide) ?_
      refine lv_icmp_gt (tgt := 72) hx hb dc_J6_getChars_ba4f3_25 (by decide) (fun c_0 => ?_) (fun c_0 => ?_)
      · skip
        have h100 := ky_lt100I hv c_0
        have hd8 := ky_d1 v
        have hq9 := ky_neg100I hv h100
        refine lv_aload_n hx hb dc_J6_getChars_ba4f3_72 rfl (lv_at hl 1 rfl) ?_
        refine lv_iinc (v := nI (cc - 1)) (lv' := [(5, .int (nI (cc - 1))), (0, .int (x)), (2, .ref da), (6, .int (fl))]) hx hb dc_J6_getChars_ba4f3_73 hl (k := 2) rfl (ky_pm1 (by omega)) (by decide) rfl (fun ls hl => ?_)
        refine lv_iload hx hb dc_J6_getChars_ba4f3_76 (lv_at hl 0 rfl) ?_
        obtain ⟨t_1, hZ_1, hT_1⟩ := kq_DO hE hfr
        refine va_gets hx hb hZ_1 hS hown (hts _ kw_2_55) (fun _ h9 => h9) dc_J6_getChars_ba4f3_78 ?_
        refine lv_iload_n hx hb dc_J6_getChars_ba4f3_81 rfl (lv_at hl 1 rfl) ?_
        refine lv_ineg hx hb dc_J6_getChars_ba4f3_82 ?_
        refine va_tb hx hb hT_1 hS hq9 (v := .int (kf_DO (-(x)).toNatClampNeg)) rfl dc_J6_getChars_ba4f3_83 ?_
        refine va_bast hx hb hE.1 hP hD hS 0 0 rfl rfl (vp_in_nI (by omega) (by omega)) dc_J6_getChars_ba4f3_84 (fun H locs hP hD hS => ?_)
        have hP : va_P G.1 kcl [(da, .inl (G.2.1 0, mm, .inl (upd (fx) (nI (cc - 1)).toNatClampNeg (vp_nar .byte (kf_DO (-(x)).toNatClampNeg)))))] H := hP
        have hD : va_D A [(da, .inl (G.2.1 0, mm, .inl (upd (fx) (nI (cc - 1)).toNatClampNeg (vp_nar .byte (kf_DO (-(x)).toNatClampNeg)))))] := hD
        refine lv_iload_n hx hb dc_J6_getChars_ba4f3_85 rfl (lv_at hl 1 rfl) ?_
        refine lv_bipush (v := (-9)) hx hb dc_J6_getChars_ba4f3_86 (by decide) ?_
        refine lv_icmp_ge (tgt := 104) hx hb dc_J6_getChars_ba4f3_88 (by decide) (fun c_2 => ?_) (fun c_2 => ?_)
        · skip
          refine lv_iload hx hb dc_J6_getChars_ba4f3_104 (lv_at hl 3 rfl) ?_
          refine lv_if_eq (tgt := 118) hx hb dc_J6_getChars_ba4f3_106 (by decide) (fun c_3 => ?_) (fun c_3 => ?_)
          · skip
            refine lv_iload hx hb dc_J6_getChars_ba4f3_118 (lv_at hl 0 rfl) ?_
            have hP9 := hP.sub (ws' := [(da, .inl (G.2.1 0, mm, .inl (upd (fx) (nI (cc - 1)).toNatClampNeg (vp_nar .byte (kf_DO (-(x)).toNatClampNeg)))))]) [0] rfl
            have hD9 := hD.sub (ws' := [(da, .inl (G.2.1 0, mm, .inl (upd (fx) (nI (cc - 1)).toNatClampNeg (vp_nar .byte (kf_DO (-(x)).toNatClampNeg)))))]) [0] (by decide) rfl
            refine W.widen (k := 0) (n := 0) (Nat.le_of_ble_eq_true rfl) (Nat.le_of_ble_eq_true rfl) ?_
            exact W.iret (v := nI (cc - 1)) hx hb hr (fun t ht hW => ⟨⟨_, upd (fx) (nI (cc - 1)).toNatClampNeg (vp_nar .byte (kf_DO (-(x)).toNatClampNeg)), rfl, ⟨⟨_, rfl⟩, (ky_fitU hfx _ (ky_fitN _))⟩, by rw [ht]; exact hP9, hD9, trivial⟩, hS.F ht⟩) hS.2.2 dc_J6_getChars_ba4f3_120
          · skip
            have hfl : (if fl = 0 then 0 else 1) = 1 := if_neg c_3
            refine lv_aload_n hx hb dc_J6_getChars_ba4f3_109 rfl (lv_at hl 2 rfl) ?_
            refine lv_iinc (v := nI (cc - 1 - 1)) (lv' := [(5, .int (nI (cc - 1 - 1))), (0, .int (x)), (2, .ref da), (6, .int (fl))]) hx hb dc_J6_getChars_ba4f3_110 hl (k := 0) rfl (ky_pm1 (by omega)) (by decide) rfl (fun ls hl => ?_)
            refine lv_iload hx hb dc_J6_getChars_ba4f3_113 (lv_at hl 0 rfl) ?_
            refine lv_bipush (v := 45) hx hb dc_J6_getChars_ba4f3_115 (by decide) ?_
            refine va_bast hx hb hE.1 hP hD hS 0 0 rfl rfl (vp_in_nI (by omega) (by omega)) dc_J6_getChars_ba4f3_117 (fun H locs hP hD hS => ?_)
            have hP : va_P G.1 kcl [(da, .inl (G.2.1 0, mm, .inl (upd (upd (fx) (nI (cc - 1)).toNatClampNeg (vp_nar .byte (kf_DO (-(x)).toNatClampNeg))) (nI (cc - 1 - 1)).toNatClampNeg (vp_nar .byte ((45 : Int32))))))] H := hP
            have hD : va_D A [(da, .inl (G.2.1 0, mm, .inl (upd (upd (fx) (nI (cc - 1)).toNatClampNeg (vp_nar .byte (kf_DO (-(x)).toNatClampNeg))) (nI (cc - 1 - 1)).toNatClampNeg (vp_nar .byte ((45 : Int32))))))] := hD
            refine lv_iload hx hb dc_J6_getChars_ba4f3_118 (lv_at hl 0 rfl) ?_
            have hP9 := hP.sub (ws' := [(da, .inl (G.2.1 0, mm, .inl (upd (upd (fx) (nI (cc - 1)).toNatClampNeg (vp_nar .byte (kf_DO (-(x)).toNatClampNeg))) (nI (cc - 1 - 1)).toNatClampNeg (vp_nar .byte ((45 : Int32))))))]) [0] rfl
            have hD9 := hD.sub (ws' := [(da, .inl (G.2.1 0, mm, .inl (upd (upd (fx) (nI (cc - 1)).toNatClampNeg (vp_nar .byte (kf_DO (-(x)).toNatClampNeg))) (nI (cc - 1 - 1)).toNatClampNeg (vp_nar .byte ((45 : Int32))))))]) [0] (by decide) rfl
            refine W.widen (k := 0) (n := 0) (Nat.le_of_ble_eq_true rfl) (Nat.le_of_ble_eq_true rfl) ?_
            exact W.iret (v := nI (cc - 1 - 1)) hx hb hr (fun t ht hW => ⟨⟨_, upd (upd (fx) (nI (cc - 1)).toNatClampNeg (vp_nar .byte (kf_DO (-(x)).toNatClampNeg))) (nI (cc - 1 - 1)).toNatClampNeg (vp_nar .byte ((45 : Int32))), rfl, ⟨⟨_, rfl⟩, (ky_fitU (ky_fitU hfx _ (ky_fitN _)) _ (ky_fitN _))⟩, by rw [ht]; exact hP9, hD9, trivial⟩, hS.F ht⟩) hS.2.2 dc_J6_getChars_ba4f3_120
        · skip
          have hd9 := ky_d99 (ky_ge10I hv c_2) h100
          refine lv_aload_n hx hb dc_J6_getChars_ba4f3_91 rfl (lv_at hl 2 rfl) ?_
          refine lv_iinc (v := nI (cc - 1 - 1)) (lv' := [(5, .int (nI (cc - 1 - 1))), (0, .int (x)), (2, .ref da), (6, .int (fl))]) hx hb dc_J6_getChars_ba4f3_92 hl (k := 0) rfl (ky_pm1 (by omega)) (by decide) rfl (fun ls hl => ?_)
          refine lv_iload hx hb dc_J6_getChars_ba4f3_95 (lv_at hl 0 rfl) ?_
          obtain ⟨t_3, hZ_3, hT_3⟩ := kq_DT hE hfr
          refine va_gets hx hb hZ_3 hS hown (hts _ kw_2_57) (fun _ h9 => h9) dc_J6_getChars_ba4f3_97 ?_
          refine lv_iload_n hx hb dc_J6_getChars_ba4f3_100 rfl (lv_at hl 1 rfl) ?_
          refine lv_ineg hx hb dc_J6_getChars_ba4f3_101 ?_
          refine va_tb hx hb hT_3 hS hq9 (v := .int (kf_DT (-(x)).toNatClampNeg)) rfl dc_J6_getChars_ba4f3_102 ?_
          refine va_bast hx hb hE.1 hP hD hS 0 0 rfl rfl (vp_in_nI (by omega) (by omega)) dc_J6_getChars_ba4f3_103 (fun H locs hP hD hS => ?_)
          have hP : va_P G.1 kcl [(da, .inl (G.2.1 0, mm, .inl (upd (upd (fx) (nI (cc - 1)).toNatClampNeg (vp_nar .byte (kf_DO (-(x)).toNatClampNeg))) (nI (cc - 1 - 1)).toNatClampNeg (vp_nar .byte (kf_DT (-(x)).toNatClampNeg)))))] H := hP
          have hD : va_D A [(da, .inl (G.2.1 0, mm, .inl (upd (upd (fx) (nI (cc - 1)).toNatClampNeg (vp_nar .byte (kf_DO (-(x)).toNatClampNeg))) (nI (cc - 1 - 1)).toNatClampNeg (vp_nar .byte (kf_DT (-(x)).toNatClampNeg)))))] := hD
          refine lv_iload hx hb dc_J6_getChars_ba4f3_104 (lv_at hl 3 rfl) ?_
          refine lv_if_eq (tgt := 118) hx hb dc_J6_getChars_ba4f3_106 (by decide) (fun c_4 => ?_) (fun c_4 => ?_)
          · skip
            refine lv_iload hx hb dc_J6_getChars_ba4f3_118 (lv_at hl 0 rfl) ?_
            have hP9 := hP.sub (ws' := [(da, .inl (G.2.1 0, mm, .inl (upd (upd (fx) (nI (cc - 1)).toNatClampNeg (vp_nar .byte (kf_DO (-(x)).toNatClampNeg))) (nI (cc - 1 - 1)).toNatClampNeg (vp_nar .byte (kf_DT (-(x)).toNatClampNeg)))))]) [0] rfl
            have hD9 := hD.sub (ws' := [(da, .inl (G.2.1 0, mm, .inl (upd (upd (fx) (nI (cc - 1)).toNatClampNeg (vp_nar .byte (kf_DO (-(x)).toNatClampNeg))) (nI (cc - 1 - 1)).toNatClampNeg (vp_nar .byte (kf_DT (-(x)).toNatClampNeg)))))]) [0] (by decide) rfl
            refine W.widen (k := 0) (n := 0) (Nat.le_of_ble_eq_true rfl) (Nat.le_of_ble_eq_true rfl) ?_
            exact W.iret (v := nI (cc - 1 - 1)) hx hb hr (fun t ht hW => ⟨⟨_, upd (upd (fx) (nI (cc - 1)).toNatClampNeg (vp_nar .byte (kf_DO (-(x)).toNatClampNeg))) (nI (cc - 1 - 1)).toNatClampNeg (vp_nar .byte (kf_DT (-(x)).toNatClampNeg)), rfl, ⟨⟨_, rfl⟩, (ky_fitU (ky_fitU hfx _ (ky_fitN _)) _ (ky_fitN _))⟩, by rw [ht]; exact hP9, hD9, trivial⟩, hS.F ht⟩) hS.2.2 dc_J6_getChars_ba4f3_120
          · skip
            have hfl : (if fl = 0 then 0 else 1) = 1 := if_neg c_4
            refine lv_aload_n hx hb dc_J6_getChars_ba4f3_109 rfl (lv_at hl 2 rfl) ?_
            refine lv_iinc (v := nI (cc - 1 - 1 - 1)) (lv' := [(5, .int (nI (cc - 1 - 1 - 1))), (0, .int (x)), (2, .ref da), (6, .int (fl))]) hx hb dc_J6_getChars_ba4f3_110 hl (k := 0) rfl (ky_pm1 (by omega)) (by decide) rfl (fun ls hl => ?_)
            refine lv_iload hx hb dc_J6_getChars_ba4f3_113 (lv_at hl 0 rfl) ?_
            refine lv_bipush (v := 45) hx hb dc_J6_getChars_ba4f3_115 (by decide) ?_
            refine va_bast hx hb hE.1 hP hD hS 0 0 rfl rfl (vp_in_nI (by omega) (by omega)) dc_J6_getChars_ba4f3_117 (fun H locs hP hD hS => ?_)
            have hP : va_P G.1 kcl [(da, .inl (G.2.1 0, mm, .inl (upd (upd (upd (fx) (nI (cc - 1)).toNatClampNeg (vp_nar .byte (kf_DO (-(x)).toNatClampNeg))) (nI (cc - 1 - 1)).toNatClampNeg (vp_nar .byte (kf_DT (-(x)).toNatClampNeg))) (nI (cc - 1 - 1 - 1)).toNatClampNeg (vp_nar .byte ((45 : Int32))))))] H := hP
            have hD : va_D A [(da, .inl (G.2.1 0, mm, .inl (upd (upd (upd (fx) (nI (cc - 1)).toNatClampNeg (vp_nar .byte (kf_DO (-(x)).toNatClampNeg))) (nI (cc - 1 - 1)).toNatClampNeg (vp_nar .byte (kf_DT (-(x)).toNatClampNeg))) (nI (cc - 1 - 1 - 1)).toNatClampNeg (vp_nar .byte ((45 : Int32))))))] := hD
            refine lv_iload hx hb dc_J6_getChars_ba4f3_118 (lv_at hl 0 rfl) ?_
            have hP9 := hP.sub (ws' := [(da, .inl (G.2.1 0, mm, .inl (upd (upd (upd (fx) (nI (cc - 1)).toNatClampNeg (vp_nar .byte (kf_DO (-(x)).toNatClampNeg))) (nI (cc - 1 - 1)).toNatClampNeg (vp_nar .byte (kf_DT (-(x)).toNatClampNeg))) (nI (cc - 1 - 1 - 1)).toNatClampNeg (vp_nar .byte ((45 : Int32))))))]) [0] rfl
            have hD9 := hD.sub (ws' := [(da, .inl (G.2.1 0, mm, .inl (upd (upd (upd (fx) (nI (cc - 1)).toNatClampNeg (vp_nar .byte (kf_DO (-(x)).toNatClampNeg))) (nI (cc - 1 - 1)).toNatClampNeg (vp_nar .byte (kf_DT (-(x)).toNatClampNeg))) (nI (cc - 1 - 1 - 1)).toNatClampNeg (vp_nar .byte ((45 : Int32))))))]) [0] (by decide) rfl
            refine W.widen (k := 0) (n := 0) (Nat.le_of_ble_eq_true rfl) (Nat.le_of_ble_eq_true rfl) ?_
            exact W.iret (v := nI (cc - 1 - 1 - 1)) hx hb hr (fun t ht hW => ⟨⟨_, upd (upd (upd (fx) (nI (cc - 1)).toNatClampNeg (vp_nar .byte (kf_DO (-(x)).toNatClampNeg))) (nI (cc - 1 - 1)).toNatClampNeg (vp_nar .byte (kf_DT (-(x)).toNatClampNeg))) (nI (cc - 1 - 1 - 1)).toNatClampNeg (vp_nar .byte ((45 : Int32))), rfl, ⟨⟨_, rfl⟩, (ky_fitU (ky_fitU (ky_fitU hfx _ (ky_fitN _)) _ (ky_fitN _)) _ (ky_fitN _))⟩, by rw [ht]; exact hP9, hD9, trivial⟩, hS.F ht⟩) hS.2.2 dc_J6_getChars_ba4f3_120
      · skip
        have h100 := ky_ge100I hv c_0
        have hd9 := ky_d100 h100 (ky_vI hv)
        have hd8 := ky_d1 (v / 100)
        have hr9 := ky_rem100I hv
        refine lv_iload_n hx hb dc_J6_getChars_ba4f3_28 rfl (lv_at hl 0 rfl) ?_
        refine lv_bipush (v := 100) hx hb dc_J6_getChars_ba4f3_29 (by decide) ?_
        refine lv_idiv hx hb dc_J6_getChars_ba4f3_31 (by decide) ?_
        refine lv_istore_n (lv' := [(3, .int ((x) / ((100 : Int32)))), (0, .int (x)), (2, .ref da), (5, .int (nI (cc))), (6, .int (fl))]) hx hb dc_J6_getChars_ba4f3_32 rfl hl (by decide) rfl (fun ls hl => ?_)
        refine lv_iload_n hx hb dc_J6_getChars_ba4f3_33 rfl (lv_at hl 0 rfl) ?_
        refine lv_bipush (v := 100) hx hb dc_J6_getChars_ba4f3_34 (by decide) ?_
        refine lv_imul hx hb dc_J6_getChars_ba4f3_36 ?_
        refine lv_iload_n hx hb dc_J6_getChars_ba4f3_37 rfl (lv_at hl 1 rfl) ?_
        refine lv_isub hx hb dc_J6_getChars_ba4f3_38 ?_
        refine lv_istore (lv' := [(4, .int ((((x) / ((100 : Int32))) * ((100 : Int32))) - (x))), (3, .int ((x) / ((100 : Int32)))), (0, .int (x)), (2, .ref da), (5, .int (nI (cc))), (6, .int (fl))]) hx hb dc_J6_getChars_ba4f3_39 hl (by decide) rfl (fun ls hl => ?_)
        refine lv_iload_n hx hb dc_J6_getChars_ba4f3_41 rfl (lv_at hl 1 rfl) ?_
        refine lv_istore_n (lv' := [(0, .int ((x) / ((100 : Int32)))), (4, .int ((((x) / ((100 : Int32))) * ((100 : Int32))) - (x))), (3, .int ((x) / ((100 : Int32)))), (2, .ref da), (5, .int (nI (cc))), (6, .int (fl))]) hx hb dc_J6_getChars_ba4f3_42 rfl hl (by decide) rfl (fun ls hl => ?_)
        refine lv_aload_n hx hb dc_J6_getChars_ba4f3_43 rfl (lv_at hl 3 rfl) ?_
        refine lv_iinc (v := nI (cc - 1)) (lv' := [(5, .int (nI (cc - 1))), (0, .int ((x) / ((100 : Int32)))), (4, .int ((((x) / ((100 : Int32))) * ((100 : Int32))) - (x))), (3, .int ((x) / ((100 : Int32)))), (2, .ref da), (6, .int (fl))]) hx hb dc_J6_getChars_ba4f3_44 hl (k := 4) rfl (ky_pm1 (by omega)) (by decide) rfl (fun ls hl => ?_)
        refine lv_iload hx hb dc_J6_getChars_ba4f3_47 (lv_at hl 0 rfl) ?_
        obtain ⟨t_1, hZ_1, hT_1⟩ := kq_DO hE hfr
        refine va_gets hx hb hZ_1 hS hown (hts _ kw_2_55) (fun _ h9 => h9) dc_J6_getChars_ba4f3_49 ?_
        refine lv_iload hx hb dc_J6_getChars_ba4f3_52 (lv_at hl 2 rfl) ?_
        refine va_tb hx hb hT_1 hS hr9 (v := .int (kf_DO ((((x) / ((100 : Int32))) * ((100 : Int32))) - (x)).toNatClampNeg)) rfl dc_J6_getChars_ba4f3_54 ?_
        refine va_bast hx hb hE.1 hP hD hS 0 0 rfl rfl (vp_in_nI (by omega) (by omega)) dc_J6_getChars_ba4f3_55 (fun H locs hP hD hS => ?_)
        have hP : va_P G.1 kcl [(da, .inl (G.2.1 0, mm, .inl (upd (fx) (nI (cc - 1)).toNatClampNeg (vp_nar .byte (kf_DO ((((x) / ((100 : Int32))) * ((100 : Int32))) - (x)).toNatClampNeg)))))] H := hP
        have hD : va_D A [(da, .inl (G.2.1 0, mm, .inl (upd (fx) (nI (cc - 1)).toNatClampNeg (vp_nar .byte (kf_DO ((((x) / ((100 : Int32))) * ((100 : Int32))) - (x)).toNatClampNeg)))))] := hD
        refine lv_aload_n hx hb dc_J6_getChars_ba4f3_56 rfl (lv_at hl 4 rfl) ?_
        refine lv_iinc (v := nI (cc - 1 - 1)) (lv' := [(5, .int (nI (cc - 1 - 1))), (0, .int ((x) / ((100 : Int32)))), (4, .int ((((x) / ((100 : Int32))) * ((100 : Int32))) - (x))), (3, .int ((x) / ((100 : Int32)))), (2, .ref da), (6, .int (fl))]) hx hb dc_J6_getChars_ba4f3_57 hl (k := 0) rfl (ky_pm1 (by omega)) (by decide) rfl (fun ls hl => ?_)
        refine lv_iload hx hb dc_J6_getChars_ba4f3_60 (lv_at hl 0 rfl) ?_
        obtain ⟨t_2, hZ_2, hT_2⟩ := kq_DT hE hfr
        refine va_gets hx hb hZ_2 hS hown (hts _ kw_2_57) (fun _ h9 => h9) dc_J6_getChars_ba4f3_62 ?_
        refine lv_iload hx hb dc_J6_getChars_ba4f3_65 (lv_at hl 2 rfl) ?_
        refine va_tb hx hb hT_2 hS hr9 (v := .int (kf_DT ((((x) / ((100 : Int32))) * ((100 : Int32))) - (x)).toNatClampNeg)) rfl dc_J6_getChars_ba4f3_67 ?_
        refine va_bast hx hb hE.1 hP hD hS 0 0 rfl rfl (vp_in_nI (by omega) (by omega)) dc_J6_getChars_ba4f3_68 (fun H locs hP hD hS => ?_)
        have hP : va_P G.1 kcl [(da, .inl (G.2.1 0, mm, .inl (upd (upd (fx) (nI (cc - 1)).toNatClampNeg (vp_nar .byte (kf_DO ((((x) / ((100 : Int32))) * ((100 : Int32))) - (x)).toNatClampNeg))) (nI (cc - 1 - 1)).toNatClampNeg (vp_nar .byte (kf_DT ((((x) / ((100 : Int32))) * ((100 : Int32))) - (x)).toNatClampNeg)))))] H := hP
        have hD : va_D A [(da, .inl (G.2.1 0, mm, .inl (upd (upd (fx) (nI (cc - 1)).toNatClampNeg (vp_nar .byte (kf_DO ((((x) / ((100 : Int32))) * ((100 : Int32))) - (x)).toNatClampNeg))) (nI (cc - 1 - 1)).toNatClampNeg (vp_nar .byte (kf_DT ((((x) / ((100 : Int32))) * ((100 : Int32))) - (x)).toNatClampNeg)))))] := hD
        refine lv_goto (tgt := 22) hx hb dc_J6_getChars_ba4f3_69 (by decide) ?_
        refine W.widen (k := 0) (n := 0) (by first | exact Nat.le_refl _ | omega | exact Nat.zero_le _) (by first | exact Nat.le_refl _ | omega | exact Nat.zero_le _) ?_
        exact ih ((x) / ((100 : Int32))) (v / 100) (cc - 1 - 1) (upd (upd (fx) (nI (cc - 1)).toNatClampNeg (vp_nar .byte (kf_DO ((((x) / ((100 : Int32))) * ((100 : Int32))) - (x)).toNatClampNeg))) (nI (cc - 1 - 1)).toNatClampNeg (vp_nar .byte (kf_DT ((((x) / ((100 : Int32))) * ((100 : Int32))) - (x)).toNatClampNeg))) fl (ky_div100I hv) (by omega) (by omega) (by omega) (ky_fitU (ky_fitU hfx _ (ky_fitN _)) _ (ky_fitN _)) _ _ (hP.sub (ws' := [(da, .inl (G.2.1 0, mm, .inl (upd (upd (fx) (nI (cc - 1)).toNatClampNeg (vp_nar .byte (kf_DO ((((x) / ((100 : Int32))) * ((100 : Int32))) - (x)).toNatClampNeg))) (nI (cc - 1 - 1)).toNatClampNeg (vp_nar .byte (kf_DT ((((x) / ((100 : Int32))) * ((100 : Int32))) - (x)).toNatClampNeg)))))]) [0] rfl) (hD.sub (ws' := [(da, .inl (G.2.1 0, mm, .inl (upd (upd (fx) (nI (cc - 1)).toNatClampNeg (vp_nar .byte (kf_DO ((((x) / ((100 : Int32))) * ((100 : Int32))) - (x)).toNatClampNeg))) (nI (cc - 1 - 1)).toNatClampNeg (vp_nar .byte (kf_DT ((((x) / ((100 : Int32))) * ((100 : Int32))) - (x)).toNatClampNeg)))))]) [0] (by decide) rfl) hS  _ (lv_sub hl [1, 4, 0, 5] rfl)
set_option linter.constructorNameAsVariable false in
set_option maxHeartbeats 4000000 in
set_option maxRecDepth 100000 in
theorem mt_J6_getChars_ba4f3 (l : Launch) (G : ky_G) (da : Nat) (mm : Nat) (ix : Nat) (f : Nat → Int32) (a0 : Int32) (sz : Nat) (hi : ky_szI a0 ≤ ix) (hix : ix ≤ mm) (hmm : mm < 2 ^ 20) (hf : ky_fit f) : Met l my_J6_getChars_ba4f3 (.code my_J6_getChars_ba4f3 prog_18_method_12_code 7 (some .int) :: ky_B) { frames := 0, cells := 0, slots := 0, locals := 0 } (ky_P G [.int (a0), .int (nI (ix)), .ref da] ([(da, .inl (G.2.1 0, mm, .inl f))]) sz (fun _ => True)) (ky_Q (S := Nat → Int32) G (va_A ([(da, .inl (G.2.1 0, mm, .inl f))]) sz) (fun v u => (∃ z, v = some (.int z)) ∧ ky_fit u) (fun u => [(da, .inl (G.2.1 0, mm, .inl u))]) (fun _ _ => True)) (0) (0) (va_A ([(da, .inl (G.2.1 0, mm, .inl f))]) sz) := by
  refine ky_start (by decide) (Nat.le_of_ble_eq_true rfl) (fun p e s m below meth c F hE A hAe hsz hA hfr hP hD hS hX ls hl => ?_)
  obtain ⟨hx, hb, hml, hown, hr, hlocks, hts⟩ := id F
  have hl : lv_has ls 7 [(0, .int (a0)), (1, .int (nI (ix))), (2, .ref da)] := hl
  have hP : va_P G.1 kcl [(da, .inl (G.2.1 0, mm, .inl (f)))] s.heap := hP
  have hD : va_D A [(da, .inl (G.2.1 0, mm, .inl (f)))] := hD
  refine lv_iload_n hx hb dc_J6_getChars_ba4f3_0 rfl (lv_at hl 1 rfl) ?_
  refine lv_istore (lv' := [(5, .int (nI (ix))), (0, .int (a0)), (1, .int (nI (ix))), (2, .ref da)]) hx hb dc_J6_getChars_ba4f3_1 hl (by decide) rfl (fun ls hl => ?_)
  refine lv_iload_n hx hb dc_J6_getChars_ba4f3_3 rfl (lv_at hl 1 rfl) ?_
  refine lv_if_ge (tgt := 11) hx hb dc_J6_getChars_ba4f3_4 (by decide) (fun c_0 => ?_) (fun c_0 => ?_)
  · skip
    refine lv_iconst (v := 0) hx hb dc_J6_getChars_ba4f3_11 (by decide) ?_
    refine lv_istore (lv' := [(6, .int ((0 : Int32))), (5, .int (nI (ix))), (0, .int (a0)), (1, .int (nI (ix))), (2, .ref da)]) hx hb dc_J6_getChars_ba4f3_12 hl (by decide) rfl (fun ls hl => ?_)
    refine lv_iload hx hb dc_J6_getChars_ba4f3_14 (lv_at hl 0 rfl) ?_
    refine lv_if_ne (tgt := 22) hx hb dc_J6_getChars_ba4f3_16 (by decide) (fun c_1 => absurd c_1 (by decide)) (fun _ => ?_)
    refine lv_iload_n hx hb dc_J6_getChars_ba4f3_19 rfl (lv_at hl 2 rfl) ?_
    refine lv_ineg hx hb dc_J6_getChars_ba4f3_20 ?_
    refine lv_istore_n (lv' := [(0, .int (-(a0))), (6, .int ((0 : Int32))), (5, .int (nI (ix))), (1, .int (nI (ix))), (2, .ref da)]) hx hb dc_J6_getChars_ba4f3_21 rfl hl (by decide) rfl (fun ls hl => ?_)
    have hs9 : ¬ a0 < 0 := Int32.not_lt.mpr c_0
    have hi2 := hi
    unfold ky_szI at hi2
    rw [if_neg hs9] at hi2
    refine W.widen (k := 0) (n := 0) (by first | exact Nat.le_refl _ | omega | exact Nat.zero_le _) (by first | exact Nat.le_refl _ | omega | exact Nat.zero_le _) ?_
    exact ml_J6_getChars_ba4f3_L22 (da := da) (mm := mm) (ix := ix) (f := f) (a0 := a0) F hE hA hfr  hmm (ky_d a0.toInt.natAbs) (-(a0)) a0.toInt.natAbs ix f (0 : Int32) (ky_absI.2 hs9) (Nat.le_refl _) hi2 hix hf _ _ (hP.sub (ws' := [(da, .inl (G.2.1 0, mm, .inl (f)))]) [0] rfl) (hD.sub (ws' := [(da, .inl (G.2.1 0, mm, .inl (f)))]) [0] (by decide) rfl) hS  _ (lv_sub hl [0, 4, 2, 1] rfl)
  · skip
    refine lv_iconst (v := 1) hx hb dc_J6_getChars_ba4f3_7 (by decide) ?_
    refine lv_goto (tgt := 12) hx hb dc_J6_getChars_ba4f3_8 (by decide) ?_
    refine lv_istore (lv' := [(6, .int ((1 : Int32))), (5, .int (nI (ix))), (0, .int (a0)), (1, .int (nI (ix))), (2, .ref da)]) hx hb dc_J6_getChars_ba4f3_12 hl (by decide) rfl (fun ls hl => ?_)
    refine lv_iload hx hb dc_J6_getChars_ba4f3_14 (lv_at hl 0 rfl) ?_
    refine lv_if_ne (tgt := 22) hx hb dc_J6_getChars_ba4f3_16 (by decide) (fun _ => ?_) (fun c_1 => absurd c_1 (by decide))
    have hs9 : a0 < 0 := Int32.not_le.mp c_0
    have hi2 := hi
    unfold ky_szI at hi2
    rw [if_pos hs9] at hi2
    refine W.widen (k := 0) (n := 0) (by first | exact Nat.le_refl _ | omega | exact Nat.zero_le _) (by first | exact Nat.le_refl _ | omega | exact Nat.zero_le _) ?_
    exact ml_J6_getChars_ba4f3_L22 (da := da) (mm := mm) (ix := ix) (f := f) (a0 := a0) F hE hA hfr  hmm (ky_d a0.toInt.natAbs) a0 a0.toInt.natAbs ix f (1 : Int32) (ky_absI.1 hs9) (Nat.le_refl _) hi2 hix hf _ _ (hP.sub (ws' := [(da, .inl (G.2.1 0, mm, .inl (f)))]) [0] rfl) (hD.sub (ws' := [(da, .inl (G.2.1 0, mm, .inl (f)))]) [0] (by decide) rfl) hS  _ (lv_sub hl [2, 4, 1, 0] rfl)
set_option linter.constructorNameAsVariable false in
set_option maxHeartbeats 4000000 in
set_option maxRecDepth 100000 in
theorem ml_J13_getChars_11360_L86 {p : Program} {l : Launch} {e : Env} {s : State} {m : MethodId} {args : Array Value} {below : List Frame} {meth : Method} {c : Code} {G : ky_G} {A : Nat → Prop} {da : Nat} {mm : Nat} {ix : Nat} {f : Nat → Int32} {a0 : Int64} (F : ky_F p s m meth c my_J13_getChars_11360.cls prog_19_method_14_code 11 (some .int) args) (hE : ky_E G s) (hA : ∀ q, s.heap.size ≤ q → A q) (hfr : ∀ q, A q → ky_fr G q)  (hmm : mm < 2 ^ 20) : ∀ (n9 : Nat) (x : Int32) (v : Nat) (cc : Nat) (fx : Nat → Int32) (fl : Int32) (hv : x.toInt = -(v : Int)) (hn : ky_d v ≤ n9) (hc : ky_d v + (if fl = 0 then 0 else 1) ≤ cc) (hcm : cc ≤ mm) (hfx : ky_fit fx) (H : Heap) (locs : List Loc), va_P G.1 kcl [(da, .inl (G.2.1 0, mm, .inl (fx)))] H → va_D A [(da, .inl (G.2.1 0, mm, .inl (fx)))] → va_S A s.heap H locs →  ∀ ls : Array Slot, lv_has ls 11 [(3, .ref da), (7, .int (nI (cc))), (8, .int (fl)), (10, .int (x))] → W p l e { frames := 0, cells := 0, slots := 0, locals := 0 } s m args below meth c H locs (0) (0) (MQ below (ky_Q (S := Nat → Int32) G A (fun v u => (∃ z, v = some (.int z)) ∧ ky_fit u) (fun u => [(da, .inl (G.2.1 0, mm, .inl u))]) (fun _ _ => True)) args s (0) (0) A) (F0 m 86 ls []) := by
  obtain ⟨hx, hb, hml, hown, hr, hlocks, hts⟩ := id F
  intro n9
  induction n9 with
  | zero => intro x v cc fx fl hv hn hc hcm hfx; exact False.elim (by have := ky_d1 v; omega)
  | succ n9 ih =>
      intro x v cc fx fl hv hn hc hcm hfx H locs hP hD hS  ls hl
      refine lv_iload hx hb dc_J13_getChars_11360_86 (lv_at hl 3 rfl) ?_
      refine lv_bipush (v := (-100)) hx hb dc_J13_getChars_11360_88 (by decide) ?_
      refine lv_icmp_gt (tgt := 143) hx hb dc_J13_getChars_11360_90 (by decide) (fun c_0 => ?_) (fun c_0 => ?_)
      · skip
        have h100 := ky_lt100I hv c_0
        have hd8 := ky_d1 v
        have hq9 := ky_neg100I hv h100
        refine lv_aload_n hx hb dc_J13_getChars_11360_143 rfl (lv_at hl 0 rfl) ?_
        refine lv_iinc (v := nI (cc - 1)) (lv' := [(7, .int (nI (cc - 1))), (3, .ref da), (8, .int (fl)), (10, .int (x))]) hx hb dc_J13_getChars_11360_144 hl (k := 1) rfl (ky_pm1 (by omega)) (by decide) rfl (fun ls hl => ?_)
        refine lv_iload hx hb dc_J13_getChars_11360_147 (lv_at hl 0 rfl) ?_
        obtain ⟨t_1, hZ_1, hT_1⟩ := kq_DO hE hfr
        refine va_gets hx hb hZ_1 hS hown (hts _ kw_7_78) (fun _ h9 => h9) dc_J13_getChars_11360_149 ?_
        refine lv_iload hx hb dc_J13_getChars_11360_152 (lv_at hl 3 rfl) ?_
        refine lv_ineg hx hb dc_J13_getChars_11360_154 ?_
        refine va_tb hx hb hT_1 hS hq9 (v := .int (kf_DO (-(x)).toNatClampNeg)) rfl dc_J13_getChars_11360_155 ?_
        refine va_bast hx hb hE.1 hP hD hS 0 0 rfl rfl (vp_in_nI (by omega) (by omega)) dc_J13_getChars_11360_156 (fun H locs hP hD hS => ?_)
        have hP : va_P G.1 kcl [(da, .inl (G.2.1 0, mm, .inl (upd (fx) (nI (cc - 1)).toNatClampNeg (vp_nar .byte (kf_DO (-(x)).toNatClampNeg)))))] H := hP
        have hD : va_D A [(da, .inl (G.2.1 0, mm, .inl (upd (fx) (nI (cc - 1)).toNatClampNeg (vp_nar .byte (kf_DO (-(x)).toNatClampNeg)))))] := hD
        refine lv_iload hx hb dc_J13_getChars_11360_157 (lv_at hl 3 rfl) ?_
        refine lv_bipush (v := (-9)) hx hb dc_J13_getChars_11360_159 (by decide) ?_
        refine lv_icmp_ge (tgt := 178) hx hb dc_J13_getChars_11360_161 (by decide) (fun c_2 => ?_) (fun c_2 => ?_)
        · skip
          refine lv_iload hx hb dc_J13_getChars_11360_178 (lv_at hl 2 rfl) ?_
          refine lv_if_eq (tgt := 192) hx hb dc_J13_getChars_11360_180 (by decide) (fun c_3 => ?_) (fun c_3 => ?_)
          · skip
            refine lv_iload hx hb dc_J13_getChars_11360_192 (lv_at hl 0 rfl) ?_
            have hP9 := hP.sub (ws' := [(da, .inl (G.2.1 0, mm, .inl (upd (fx) (nI (cc - 1)).toNatClampNeg (vp_nar .byte (kf_DO (-(x)).toNatClampNeg)))))]) [0] rfl
            have hD9 := hD.sub (ws' := [(da, .inl (G.2.1 0, mm, .inl (upd (fx) (nI (cc - 1)).toNatClampNeg (vp_nar .byte (kf_DO (-(x)).toNatClampNeg)))))]) [0] (by decide) rfl
            refine W.widen (k := 0) (n := 0) (Nat.le_of_ble_eq_true rfl) (Nat.le_of_ble_eq_true rfl) ?_
            exact W.iret (v := nI (cc - 1)) hx hb hr (fun t ht hW => ⟨⟨_, upd (fx) (nI (cc - 1)).toNatClampNeg (vp_nar .byte (kf_DO (-(x)).toNatClampNeg)), rfl, ⟨⟨_, rfl⟩, (ky_fitU hfx _ (ky_fitN _))⟩, by rw [ht]; exact hP9, hD9, trivial⟩, hS.F ht⟩) hS.2.2 dc_J13_getChars_11360_194
          · skip
            have hfl : (if fl = 0 then 0 else 1) = 1 := if_neg c_3
            refine lv_aload_n hx hb dc_J13_getChars_11360_183 rfl (lv_at hl 1 rfl) ?_
            refine lv_iinc (v := nI (cc - 1 - 1)) (lv' := [(7, .int (nI (cc - 1 - 1))), (3, .ref da), (8, .int (fl)), (10, .int (x))]) hx hb dc_J13_getChars_11360_184 hl (k := 0) rfl (ky_pm1 (by omega)) (by decide) rfl (fun ls hl => ?_)
            refine lv_iload hx hb dc_J13_getChars_11360_187 (lv_at hl 0 rfl) ?_
            refine lv_bipush (v := 45) hx hb dc_J13_getChars_11360_189 (by decide) ?_
            refine va_bast hx hb hE.1 hP hD hS 0 0 rfl rfl (vp_in_nI (by omega) (by omega)) dc_J13_getChars_11360_191 (fun H locs hP hD hS => ?_)
            have hP : va_P G.1 kcl [(da, .inl (G.2.1 0, mm, .inl (upd (upd (fx) (nI (cc - 1)).toNatClampNeg (vp_nar .byte (kf_DO (-(x)).toNatClampNeg))) (nI (cc - 1 - 1)).toNatClampNeg (vp_nar .byte ((45 : Int32))))))] H := hP
            have hD : va_D A [(da, .inl (G.2.1 0, mm, .inl (upd (upd (fx) (nI (cc - 1)).toNatClampNeg (vp_nar .byte (kf_DO (-(x)).toNatClampNeg))) (nI (cc - 1 - 1)).toNatClampNeg (vp_nar .byte ((45 : Int32))))))] := hD
            refine lv_iload hx hb dc_J13_getChars_11360_192 (lv_at hl 0 rfl) ?_
            have hP9 := hP.sub (ws' := [(da, .inl (G.2.1 0, mm, .inl (upd (upd (fx) (nI (cc - 1)).toNatClampNeg (vp_nar .byte (kf_DO (-(x)).toNatClampNeg))) (nI (cc - 1 - 1)).toNatClampNeg (vp_nar .byte ((45 : Int32))))))]) [0] rfl
            have hD9 := hD.sub (ws' := [(da, .inl (G.2.1 0, mm, .inl (upd (upd (fx) (nI (cc - 1)).toNatClampNeg (vp_nar .byte (kf_DO (-(x)).toNatClampNeg))) (nI (cc - 1 - 1)).toNatClampNeg (vp_nar .byte ((45 : Int32))))))]) [0] (by decide) rfl
            refine W.widen (k := 0) (n := 0) (Nat.le_of_ble_eq_true rfl) (Nat.le_of_ble_eq_true rfl) ?_
            exact W.iret (v := nI (cc - 1 - 1)) hx hb hr (fun t ht hW => ⟨⟨_, upd (upd (fx) (nI (cc - 1)).toNatClampNeg (vp_nar .byte (kf_DO (-(x)).toNatClampNeg))) (nI (cc - 1 - 1)).toNatClampNeg (vp_nar .byte ((45 : Int32))), rfl, ⟨⟨_, rfl⟩, (ky_fitU (ky_fitU hfx _ (ky_fitN _)) _ (ky_fitN _))⟩, by rw [ht]; exact hP9, hD9, trivial⟩, hS.F ht⟩) hS.2.2 dc_J13_getChars_11360_194
        · skip
          have hd9 := ky_d99 (ky_ge10I hv c_2) h100
          refine lv_aload_n hx hb dc_J13_getChars_11360_164 rfl (lv_at hl 1 rfl) ?_
          refine lv_iinc (v := nI (cc - 1 - 1)) (lv' := [(7, .int (nI (cc - 1 - 1))), (3, .ref da), (8, .int (fl)), (10, .int (x))]) hx hb dc_J13_getChars_11360_165 hl (k := 0) rfl (ky_pm1 (by omega)) (by decide) rfl (fun ls hl => ?_)
          refine lv_iload hx hb dc_J13_getChars_11360_168 (lv_at hl 0 rfl) ?_
          obtain ⟨t_3, hZ_3, hT_3⟩ := kq_DT hE hfr
          refine va_gets hx hb hZ_3 hS hown (hts _ kw_7_79) (fun _ h9 => h9) dc_J13_getChars_11360_170 ?_
          refine lv_iload hx hb dc_J13_getChars_11360_173 (lv_at hl 3 rfl) ?_
          refine lv_ineg hx hb dc_J13_getChars_11360_175 ?_
          refine va_tb hx hb hT_3 hS hq9 (v := .int (kf_DT (-(x)).toNatClampNeg)) rfl dc_J13_getChars_11360_176 ?_
          refine va_bast hx hb hE.1 hP hD hS 0 0 rfl rfl (vp_in_nI (by omega) (by omega)) dc_J13_getChars_11360_177 (fun H locs hP hD hS => ?_)
          have hP : va_P G.1 kcl [(da, .inl (G.2.1 0, mm, .inl (upd (upd (fx) (nI (cc - 1)).toNatClampNeg (vp_nar .byte (kf_DO (-(x)).toNatClampNeg))) (nI (cc - 1 - 1)).toNatClampNeg (vp_nar .byte (kf_DT (-(x)).toNatClampNeg)))))] H := hP
          have hD : va_D A [(da, .inl (G.2.1 0, mm, .inl (upd (upd (fx) (nI (cc - 1)).toNatClampNeg (vp_nar .byte (kf_DO (-(x)).toNatClampNeg))) (nI (cc - 1 - 1)).toNatClampNeg (vp_nar .byte (kf_DT (-(x)).toNatClampNeg)))))] := hD
          refine lv_iload hx hb dc_J13_getChars_11360_178 (lv_at hl 2 rfl) ?_
          refine lv_if_eq (tgt := 192) hx hb dc_J13_getChars_11360_180 (by decide) (fun c_4 => ?_) (fun c_4 => ?_)
          · skip
            refine lv_iload hx hb dc_J13_getChars_11360_192 (lv_at hl 0 rfl) ?_
            have hP9 := hP.sub (ws' := [(da, .inl (G.2.1 0, mm, .inl (upd (upd (fx) (nI (cc - 1)).toNatClampNeg (vp_nar .byte (kf_DO (-(x)).toNatClampNeg))) (nI (cc - 1 - 1)).toNatClampNeg (vp_nar .byte (kf_DT (-(x)).toNatClampNeg)))))]) [0] rfl
            have hD9 := hD.sub (ws' := [(da, .inl (G.2.1 0, mm, .inl (upd (upd (fx) (nI (cc - 1)).toNatClampNeg (vp_nar .byte (kf_DO (-(x)).toNatClampNeg))) (nI (cc - 1 - 1)).toNatClampNeg (vp_nar .byte (kf_DT (-(x)).toNatClampNeg)))))]) [0] (by decide) rfl
            refine W.widen (k := 0) (n := 0) (Nat.le_of_ble_eq_true rfl) (Nat.le_of_ble_eq_true rfl) ?_
            exact W.iret (v := nI (cc - 1 - 1)) hx hb hr (fun t ht hW => ⟨⟨_, upd (upd (fx) (nI (cc - 1)).toNatClampNeg (vp_nar .byte (kf_DO (-(x)).toNatClampNeg))) (nI (cc - 1 - 1)).toNatClampNeg (vp_nar .byte (kf_DT (-(x)).toNatClampNeg)), rfl, ⟨⟨_, rfl⟩, (ky_fitU (ky_fitU hfx _ (ky_fitN _)) _ (ky_fitN _))⟩, by rw [ht]; exact hP9, hD9, trivial⟩, hS.F ht⟩) hS.2.2 dc_J13_getChars_11360_194
          · skip
            have hfl : (if fl = 0 then 0 else 1) = 1 := if_neg c_4
            refine lv_aload_n hx hb dc_J13_getChars_11360_183 rfl (lv_at hl 1 rfl) ?_
            refine lv_iinc (v := nI (cc - 1 - 1 - 1)) (lv' := [(7, .int (nI (cc - 1 - 1 - 1))), (3, .ref da), (8, .int (fl)), (10, .int (x))]) hx hb dc_J13_getChars_11360_184 hl (k := 0) rfl (ky_pm1 (by omega)) (by decide) rfl (fun ls hl => ?_)
            refine lv_iload hx hb dc_J13_getChars_11360_187 (lv_at hl 0 rfl) ?_
            refine lv_bipush (v := 45) hx hb dc_J13_getChars_11360_189 (by decide) ?_
            refine va_bast hx hb hE.1 hP hD hS 0 0 rfl rfl (vp_in_nI (by omega) (by omega)) dc_J13_getChars_11360_191 (fun H locs hP hD hS => ?_)
            have hP : va_P G.1 kcl [(da, .inl (G.2.1 0, mm, .inl (upd (upd (upd (fx) (nI (cc - 1)).toNatClampNeg (vp_nar .byte (kf_DO (-(x)).toNatClampNeg))) (nI (cc - 1 - 1)).toNatClampNeg (vp_nar .byte (kf_DT (-(x)).toNatClampNeg))) (nI (cc - 1 - 1 - 1)).toNatClampNeg (vp_nar .byte ((45 : Int32))))))] H := hP
            have hD : va_D A [(da, .inl (G.2.1 0, mm, .inl (upd (upd (upd (fx) (nI (cc - 1)).toNatClampNeg (vp_nar .byte (kf_DO (-(x)).toNatClampNeg))) (nI (cc - 1 - 1)).toNatClampNeg (vp_nar .byte (kf_DT (-(x)).toNatClampNeg))) (nI (cc - 1 - 1 - 1)).toNatClampNeg (vp_nar .byte ((45 : Int32))))))] := hD
            refine lv_iload hx hb dc_J13_getChars_11360_192 (lv_at hl 0 rfl) ?_
            have hP9 := hP.sub (ws' := [(da, .inl (G.2.1 0, mm, .inl (upd (upd (upd (fx) (nI (cc - 1)).toNatClampNeg (vp_nar .byte (kf_DO (-(x)).toNatClampNeg))) (nI (cc - 1 - 1)).toNatClampNeg (vp_nar .byte (kf_DT (-(x)).toNatClampNeg))) (nI (cc - 1 - 1 - 1)).toNatClampNeg (vp_nar .byte ((45 : Int32))))))]) [0] rfl
            have hD9 := hD.sub (ws' := [(da, .inl (G.2.1 0, mm, .inl (upd (upd (upd (fx) (nI (cc - 1)).toNatClampNeg (vp_nar .byte (kf_DO (-(x)).toNatClampNeg))) (nI (cc - 1 - 1)).toNatClampNeg (vp_nar .byte (kf_DT (-(x)).toNatClampNeg))) (nI (cc - 1 - 1 - 1)).toNatClampNeg (vp_nar .byte ((45 : Int32))))))]) [0] (by decide) rfl
            refine W.widen (k := 0) (n := 0) (Nat.le_of_ble_eq_true rfl) (Nat.le_of_ble_eq_true rfl) ?_
            exact W.iret (v := nI (cc - 1 - 1 - 1)) hx hb hr (fun t ht hW => ⟨⟨_, upd (upd (upd (fx) (nI (cc - 1)).toNatClampNeg (vp_nar .byte (kf_DO (-(x)).toNatClampNeg))) (nI (cc - 1 - 1)).toNatClampNeg (vp_nar .byte (kf_DT (-(x)).toNatClampNeg))) (nI (cc - 1 - 1 - 1)).toNatClampNeg (vp_nar .byte ((45 : Int32))), rfl, ⟨⟨_, rfl⟩, (ky_fitU (ky_fitU (ky_fitU hfx _ (ky_fitN _)) _ (ky_fitN _)) _ (ky_fitN _))⟩, by rw [ht]; exact hP9, hD9, trivial⟩, hS.F ht⟩) hS.2.2 dc_J13_getChars_11360_194
      · skip
        have h100 := ky_ge100I hv c_0
        have hd9 := ky_d100 h100 (ky_vI hv)
        have hd8 := ky_d1 (v / 100)
        have hr9 := ky_rem100I hv
        refine lv_iload hx hb dc_J13_getChars_11360_93 (lv_at hl 3 rfl) ?_
        refine lv_bipush (v := 100) hx hb dc_J13_getChars_11360_95 (by decide) ?_
        refine lv_idiv hx hb dc_J13_getChars_11360_97 (by decide) ?_
        refine lv_istore (lv' := [(9, .int ((x) / ((100 : Int32)))), (3, .ref da), (7, .int (nI (cc))), (8, .int (fl)), (10, .int (x))]) hx hb dc_J13_getChars_11360_98 hl (by decide) rfl (fun ls hl => ?_)
        refine lv_iload hx hb dc_J13_getChars_11360_100 (lv_at hl 0 rfl) ?_
        refine lv_bipush (v := 100) hx hb dc_J13_getChars_11360_102 (by decide) ?_
        refine lv_imul hx hb dc_J13_getChars_11360_104 ?_
        refine lv_iload hx hb dc_J13_getChars_11360_105 (lv_at hl 4 rfl) ?_
        refine lv_isub hx hb dc_J13_getChars_11360_107 ?_
        refine lv_istore (lv' := [(6, .int ((((x) / ((100 : Int32))) * ((100 : Int32))) - (x))), (9, .int ((x) / ((100 : Int32)))), (3, .ref da), (7, .int (nI (cc))), (8, .int (fl)), (10, .int (x))]) hx hb dc_J13_getChars_11360_108 hl (by decide) rfl (fun ls hl => ?_)
        refine lv_iload hx hb dc_J13_getChars_11360_110 (lv_at hl 1 rfl) ?_
        refine lv_istore (lv' := [(10, .int ((x) / ((100 : Int32)))), (6, .int ((((x) / ((100 : Int32))) * ((100 : Int32))) - (x))), (9, .int ((x) / ((100 : Int32)))), (3, .ref da), (7, .int (nI (cc))), (8, .int (fl))]) hx hb dc_J13_getChars_11360_112 hl (by decide) rfl (fun ls hl => ?_)
        refine lv_aload_n hx hb dc_J13_getChars_11360_114 rfl (lv_at hl 3 rfl) ?_
        refine lv_iinc (v := nI (cc - 1)) (lv' := [(7, .int (nI (cc - 1))), (10, .int ((x) / ((100 : Int32)))), (6, .int ((((x) / ((100 : Int32))) * ((100 : Int32))) - (x))), (9, .int ((x) / ((100 : Int32)))), (3, .ref da), (8, .int (fl))]) hx hb dc_J13_getChars_11360_115 hl (k := 4) rfl (ky_pm1 (by omega)) (by decide) rfl (fun ls hl => ?_)
        refine lv_iload hx hb dc_J13_getChars_11360_118 (lv_at hl 0 rfl) ?_
        obtain ⟨t_1, hZ_1, hT_1⟩ := kq_DO hE hfr
        refine va_gets hx hb hZ_1 hS hown (hts _ kw_7_78) (fun _ h9 => h9) dc_J13_getChars_11360_120 ?_
        refine lv_iload hx hb dc_J13_getChars_11360_123 (lv_at hl 2 rfl) ?_
        refine va_tb hx hb hT_1 hS hr9 (v := .int (kf_DO ((((x) / ((100 : Int32))) * ((100 : Int32))) - (x)).toNatClampNeg)) rfl dc_J13_getChars_11360_125 ?_
        refine va_bast hx hb hE.1 hP hD hS 0 0 rfl rfl (vp_in_nI (by omega) (by omega)) dc_J13_getChars_11360_126 (fun H locs hP hD hS => ?_)
        have hP : va_P G.1 kcl [(da, .inl (G.2.1 0, mm, .inl (upd (fx) (nI (cc - 1)).toNatClampNeg (vp_nar .byte (kf_DO ((((x) / ((100 : Int32))) * ((100 : Int32))) - (x)).toNatClampNeg)))))] H := hP
        have hD : va_D A [(da, .inl (G.2.1 0, mm, .inl (upd (fx) (nI (cc - 1)).toNatClampNeg (vp_nar .byte (kf_DO ((((x) / ((100 : Int32))) * ((100 : Int32))) - (x)).toNatClampNeg)))))] := hD
        refine lv_aload_n hx hb dc_J13_getChars_11360_127 rfl (lv_at hl 4 rfl) ?_
        refine lv_iinc (v := nI (cc - 1 - 1)) (lv' := [(7, .int (nI (cc - 1 - 1))), (10, .int ((x) / ((100 : Int32)))), (6, .int ((((x) / ((100 : Int32))) * ((100 : Int32))) - (x))), (9, .int ((x) / ((100 : Int32)))), (3, .ref da), (8, .int (fl))]) hx hb dc_J13_getChars_11360_128 hl (k := 0) rfl (ky_pm1 (by omega)) (by decide) rfl (fun ls hl => ?_)
        refine lv_iload hx hb dc_J13_getChars_11360_131 (lv_at hl 0 rfl) ?_
        obtain ⟨t_2, hZ_2, hT_2⟩ := kq_DT hE hfr
        refine va_gets hx hb hZ_2 hS hown (hts _ kw_7_79) (fun _ h9 => h9) dc_J13_getChars_11360_133 ?_
        refine lv_iload hx hb dc_J13_getChars_11360_136 (lv_at hl 2 rfl) ?_
        refine va_tb hx hb hT_2 hS hr9 (v := .int (kf_DT ((((x) / ((100 : Int32))) * ((100 : Int32))) - (x)).toNatClampNeg)) rfl dc_J13_getChars_11360_138 ?_
        refine va_bast hx hb hE.1 hP hD hS 0 0 rfl rfl (vp_in_nI (by omega) (by omega)) dc_J13_getChars_11360_139 (fun H locs hP hD hS => ?_)
        have hP : va_P G.1 kcl [(da, .inl (G.2.1 0, mm, .inl (upd (upd (fx) (nI (cc - 1)).toNatClampNeg (vp_nar .byte (kf_DO ((((x) / ((100 : Int32))) * ((100 : Int32))) - (x)).toNatClampNeg))) (nI (cc - 1 - 1)).toNatClampNeg (vp_nar .byte (kf_DT ((((x) / ((100 : Int32))) * ((100 : Int32))) - (x)).toNatClampNeg)))))] H := hP
        have hD : va_D A [(da, .inl (G.2.1 0, mm, .inl (upd (upd (fx) (nI (cc - 1)).toNatClampNeg (vp_nar .byte (kf_DO ((((x) / ((100 : Int32))) * ((100 : Int32))) - (x)).toNatClampNeg))) (nI (cc - 1 - 1)).toNatClampNeg (vp_nar .byte (kf_DT ((((x) / ((100 : Int32))) * ((100 : Int32))) - (x)).toNatClampNeg)))))] := hD
        refine lv_goto (tgt := 86) hx hb dc_J13_getChars_11360_140 (by decide) ?_
        refine W.widen (k := 0) (n := 0) (by first | exact Nat.le_refl _ | omega | exact Nat.zero_le _) (by first | exact Nat.le_refl _ | omega | exact Nat.zero_le _) ?_
        exact ih ((x) / ((100 : Int32))) (v / 100) (cc - 1 - 1) (upd (upd (fx) (nI (cc - 1)).toNatClampNeg (vp_nar .byte (kf_DO ((((x) / ((100 : Int32))) * ((100 : Int32))) - (x)).toNatClampNeg))) (nI (cc - 1 - 1)).toNatClampNeg (vp_nar .byte (kf_DT ((((x) / ((100 : Int32))) * ((100 : Int32))) - (x)).toNatClampNeg))) fl (ky_div100I hv) (by omega) (by omega) (by omega) (ky_fitU (ky_fitU hfx _ (ky_fitN _)) _ (ky_fitN _)) _ _ (hP.sub (ws' := [(da, .inl (G.2.1 0, mm, .inl (upd (upd (fx) (nI (cc - 1)).toNatClampNeg (vp_nar .byte (kf_DO ((((x) / ((100 : Int32))) * ((100 : Int32))) - (x)).toNatClampNeg))) (nI (cc - 1 - 1)).toNatClampNeg (vp_nar .byte (kf_DT ((((x) / ((100 : Int32))) * ((100 : Int32))) - (x)).toNatClampNeg)))))]) [0] rfl) (hD.sub (ws' := [(da, .inl (G.2.1 0, mm, .inl (upd (upd (fx) (nI (cc - 1)).toNatClampNeg (vp_nar .byte (kf_DO ((((x) / ((100 : Int32))) * ((100 : Int32))) - (x)).toNatClampNeg))) (nI (cc - 1 - 1)).toNatClampNeg (vp_nar .byte (kf_DT ((((x) / ((100 : Int32))) * ((100 : Int32))) - (x)).toNatClampNeg)))))]) [0] (by decide) rfl) hS  _ (lv_sub hl [4, 0, 5, 1] rfl)
set_option linter.constructorNameAsVariable false in
set_option maxHeartbeats 4000000 in
set_option maxRecDepth 100000 in
theorem ml_J13_getChars_11360_L24 {p : Program} {l : Launch} {e : Env} {s : State} {m : MethodId} {args : Array Value} {below : List Frame} {meth : Method} {c : Code} {G : ky_G} {A : Nat → Prop} {da : Nat} {mm : Nat} {ix : Nat} {f : Nat → Int32} {a0 : Int64} (F : ky_F p s m meth c my_J13_getChars_11360.cls prog_19_method_14_code 11 (some .int) args) (hE : ky_E G s) (hA : ∀ q, s.heap.size ≤ q → A q) (hfr : ∀ q, A q → ky_fr G q)  (hmm : mm < 2 ^ 20) : ∀ (n9 : Nat) (x : Int64) (v : Nat) (cc : Nat) (fx : Nat → Int32) (fl : Int32) (hv : x.toInt = -(v : Int)) (hn : ky_d v ≤ n9) (hc : ky_d v + (if fl = 0 then 0 else 1) ≤ cc) (hcm : cc ≤ mm) (hfx : ky_fit fx) (H : Heap) (locs : List Loc), va_P G.1 kcl [(da, .inl (G.2.1 0, mm, .inl (fx)))] H → va_D A [(da, .inl (G.2.1 0, mm, .inl (fx)))] → va_S A s.heap H locs →  ∀ ls : Array Slot, lv_has ls 11 [(0, .long (x)), (3, .ref da), (7, .int (nI (cc))), (8, .int (fl))] → W p l e { frames := 0, cells := 0, slots := 0, locals := 0 } s m args below meth c H locs (0) (0) (MQ below (ky_Q (S := Nat → Int32) G A (fun v u => (∃ z, v = some (.int z)) ∧ ky_fit u) (fun u => [(da, .inl (G.2.1 0, mm, .inl u))]) (fun _ _ => True)) args s (0) (0) A) (F0 m 24 ls []) := by
  obtain ⟨hx, hb, hml, hown, hr, hlocks, hts⟩ := id F
  intro n9
  induction n9 with
  | zero => intro x v cc fx fl hv hn hc hcm hfx; exact False.elim (by have := ky_d1 v; omega)
  | succ n9 ih =>
      intro x v cc fx fl hv hn hc hcm hfx H locs hP hD hS  ls hl
      refine lv_lload_n hx hb dc_J13_getChars_11360_24 rfl (lv_at hl 0 rfl) ?_
      refine lv_ldc2 (v := (-2147483648)) hx hb hown (hts _ kw_7_76) dc_J13_getChars_11360_25 ?_
      refine W.lcmp hx hb dc_J13_getChars_11360_28 ?_
      refine lv_if_gt (tgt := 82) hx hb dc_J13_getChars_11360_29 (by decide) (fun c_0 => ?_) (fun c_0 => ?_)
      · skip
        refine lv_lload_n hx hb dc_J13_getChars_11360_82 rfl (lv_at hl 0 rfl) ?_
        refine lv_l2i (v := (x).toInt32) hx hb dc_J13_getChars_11360_83 rfl ?_
        refine lv_istore (lv' := [(10, .int ((x).toInt32)), (0, .long (x)), (3, .ref da), (7, .int (nI (cc))), (8, .int (fl))]) hx hb dc_J13_getChars_11360_84 hl (by decide) rfl (fun ls hl => ?_)
        refine W.widen (k := 0) (n := 0) (by first | exact Nat.le_refl _ | omega | exact Nat.zero_le _) (by first | exact Nat.le_refl _ | omega | exact Nat.zero_le _) ?_
        exact ml_J13_getChars_11360_L86 (da := da) (mm := mm) (ix := ix) (f := f) (a0 := a0) F hE hA hfr  hmm (ky_d v) (x).toInt32 v cc fx fl (ky_lJ hv c_0) (Nat.le_refl _) hc hcm hfx _ _ (hP.sub (ws' := [(da, .inl (G.2.1 0, mm, .inl (fx)))]) [0] rfl) (hD.sub (ws' := [(da, .inl (G.2.1 0, mm, .inl (fx)))]) [0] (by decide) rfl) hS  _ (lv_sub hl [2, 3, 4, 0] rfl)
      · skip
        have h100 := ky_gJ hv c_0
        have hd9 := ky_d100 h100 (ky_vJ hv)
        have hd8 := ky_d1 (v / 100)
        have hr9 := ky_rem100J hv
        refine lv_lload_n hx hb dc_J13_getChars_11360_32 rfl (lv_at hl 0 rfl) ?_
        refine lv_ldc2 (v := 100) hx hb hown (hts _ kw_7_77) dc_J13_getChars_11360_33 ?_
        refine lv_ldiv hx hb dc_J13_getChars_11360_36 (by decide) ?_
        refine lv_lstore (lv' := [(4, .long ((x) / ((100 : Int64)))), (0, .long (x)), (3, .ref da), (7, .int (nI (cc))), (8, .int (fl))]) hx hb dc_J13_getChars_11360_37 hl (by decide) rfl (fun ls hl => ?_)
        refine lv_lload hx hb dc_J13_getChars_11360_39 (lv_at hl 0 rfl) ?_
        refine lv_ldc2 (v := 100) hx hb hown (hts _ kw_7_77) dc_J13_getChars_11360_41 ?_
        refine lv_lmul hx hb dc_J13_getChars_11360_44 ?_
        refine lv_lload_n hx hb dc_J13_getChars_11360_45 rfl (lv_at hl 1 rfl) ?_
        refine lv_lsub hx hb dc_J13_getChars_11360_46 ?_
        refine lv_l2i (v := ((((x) / ((100 : Int64))) * ((100 : Int64))) - (x)).toInt32) hx hb dc_J13_getChars_11360_47 rfl ?_
        refine lv_istore (lv' := [(6, .int (((((x) / ((100 : Int64))) * ((100 : Int64))) - (x)).toInt32)), (4, .long ((x) / ((100 : Int64)))), (0, .long (x)), (3, .ref da), (7, .int (nI (cc))), (8, .int (fl))]) hx hb dc_J13_getChars_11360_48 hl (by decide) rfl (fun ls hl => ?_)
        refine lv_lload hx hb dc_J13_getChars_11360_50 (lv_at hl 1 rfl) ?_
        refine lv_lstore_n (lv' := [(0, .long ((x) / ((100 : Int64)))), (6, .int (((((x) / ((100 : Int64))) * ((100 : Int64))) - (x)).toInt32)), (4, .long ((x) / ((100 : Int64)))), (3, .ref da), (7, .int (nI (cc))), (8, .int (fl))]) hx hb dc_J13_getChars_11360_52 rfl hl (by decide) rfl (fun ls hl => ?_)
        refine lv_aload_n hx hb dc_J13_getChars_11360_53 rfl (lv_at hl 3 rfl) ?_
        refine lv_iinc (v := nI (cc - 1)) (lv' := [(7, .int (nI (cc - 1))), (0, .long ((x) / ((100 : Int64)))), (6, .int (((((x) / ((100 : Int64))) * ((100 : Int64))) - (x)).toInt32)), (4, .long ((x) / ((100 : Int64)))), (3, .ref da), (8, .int (fl))]) hx hb dc_J13_getChars_11360_54 hl (k := 4) rfl (ky_pm1 (by omega)) (by decide) rfl (fun ls hl => ?_)
        refine lv_iload hx hb dc_J13_getChars_11360_57 (lv_at hl 0 rfl) ?_
        obtain ⟨t_1, hZ_1, hT_1⟩ := kq_DO hE hfr
        refine va_gets hx hb hZ_1 hS hown (hts _ kw_7_78) (fun _ h9 => h9) dc_J13_getChars_11360_59 ?_
        refine lv_iload hx hb dc_J13_getChars_11360_62 (lv_at hl 2 rfl) ?_
        refine va_tb hx hb hT_1 hS hr9 (v := .int (kf_DO (((((x) / ((100 : Int64))) * ((100 : Int64))) - (x)).toInt32).toNatClampNeg)) rfl dc_J13_getChars_11360_64 ?_
        refine va_bast hx hb hE.1 hP hD hS 0 0 rfl rfl (vp_in_nI (by omega) (by omega)) dc_J13_getChars_11360_65 (fun H locs hP hD hS => ?_)
        have hP : va_P G.1 kcl [(da, .inl (G.2.1 0, mm, .inl (upd (fx) (nI (cc - 1)).toNatClampNeg (vp_nar .byte (kf_DO (((((x) / ((100 : Int64))) * ((100 : Int64))) - (x)).toInt32).toNatClampNeg)))))] H := hP
        have hD : va_D A [(da, .inl (G.2.1 0, mm, .inl (upd (fx) (nI (cc - 1)).toNatClampNeg (vp_nar .byte (kf_DO (((((x) / ((100 : Int64))) * ((100 : Int64))) - (x)).toInt32).toNatClampNeg)))))] := hD
        refine lv_aload_n hx hb dc_J13_getChars_11360_66 rfl (lv_at hl 4 rfl) ?_
        refine lv_iinc (v := nI (cc - 1 - 1)) (lv' := [(7, .int (nI (cc - 1 - 1))), (0, .long ((x) / ((100 : Int64)))), (6, .int (((((x) / ((100 : Int64))) * ((100 : Int64))) - (x)).toInt32)), (4, .long ((x) / ((100 : Int64)))), (3, .ref da), (8, .int (fl))]) hx hb dc_J13_getChars_11360_67 hl (k := 0) rfl (ky_pm1 (by omega)) (by decide) rfl (fun ls hl => ?_)
        refine lv_iload hx hb dc_J13_getChars_11360_70 (lv_at hl 0 rfl) ?_
        obtain ⟨t_2, hZ_2, hT_2⟩ := kq_DT hE hfr
        refine va_gets hx hb hZ_2 hS hown (hts _ kw_7_79) (fun _ h9 => h9) dc_J13_getChars_11360_72 ?_
        refine lv_iload hx hb dc_J13_getChars_11360_75 (lv_at hl 2 rfl) ?_
        refine va_tb hx hb hT_2 hS hr9 (v := .int (kf_DT (((((x) / ((100 : Int64))) * ((100 : Int64))) - (x)).toInt32).toNatClampNeg)) rfl dc_J13_getChars_11360_77 ?_
        refine va_bast hx hb hE.1 hP hD hS 0 0 rfl rfl (vp_in_nI (by omega) (by omega)) dc_J13_getChars_11360_78 (fun H locs hP hD hS => ?_)
        have hP : va_P G.1 kcl [(da, .inl (G.2.1 0, mm, .inl (upd (upd (fx) (nI (cc - 1)).toNatClampNeg (vp_nar .byte (kf_DO (((((x) / ((100 : Int64))) * ((100 : Int64))) - (x)).toInt32).toNatClampNeg))) (nI (cc - 1 - 1)).toNatClampNeg (vp_nar .byte (kf_DT (((((x) / ((100 : Int64))) * ((100 : Int64))) - (x)).toInt32).toNatClampNeg)))))] H := hP
        have hD : va_D A [(da, .inl (G.2.1 0, mm, .inl (upd (upd (fx) (nI (cc - 1)).toNatClampNeg (vp_nar .byte (kf_DO (((((x) / ((100 : Int64))) * ((100 : Int64))) - (x)).toInt32).toNatClampNeg))) (nI (cc - 1 - 1)).toNatClampNeg (vp_nar .byte (kf_DT (((((x) / ((100 : Int64))) * ((100 : Int64))) - (x)).toInt32).toNatClampNeg)))))] := hD
        refine lv_goto (tgt := 24) hx hb dc_J13_getChars_11360_79 (by decide) ?_
        refine W.widen (k := 0) (n := 0) (by first | exact Nat.le_refl _ | omega | exact Nat.zero_le _) (by first | exact Nat.le_refl _ | omega | exact Nat.zero_le _) ?_
        exact ih ((x) / ((100 : Int64))) (v / 100) (cc - 1 - 1) (upd (upd (fx) (nI (cc - 1)).toNatClampNeg (vp_nar .byte (kf_DO (((((x) / ((100 : Int64))) * ((100 : Int64))) - (x)).toInt32).toNatClampNeg))) (nI (cc - 1 - 1)).toNatClampNeg (vp_nar .byte (kf_DT (((((x) / ((100 : Int64))) * ((100 : Int64))) - (x)).toInt32).toNatClampNeg))) fl (ky_div100J hv) (by omega) (by omega) (by omega) (ky_fitU (ky_fitU hfx _ (ky_fitN _)) _ (ky_fitN _)) _ _ (hP.sub (ws' := [(da, .inl (G.2.1 0, mm, .inl (upd (upd (fx) (nI (cc - 1)).toNatClampNeg (vp_nar .byte (kf_DO (((((x) / ((100 : Int64))) * ((100 : Int64))) - (x)).toInt32).toNatClampNeg))) (nI (cc - 1 - 1)).toNatClampNeg (vp_nar .byte (kf_DT (((((x) / ((100 : Int64))) * ((100 : Int64))) - (x)).toInt32).toNatClampNeg)))))]) [0] rfl) (hD.sub (ws' := [(da, .inl (G.2.1 0, mm, .inl (upd (upd (fx) (nI (cc - 1)).toNatClampNeg (vp_nar .byte (kf_DO (((((x) / ((100 : Int64))) * ((100 : Int64))) - (x)).toInt32).toNatClampNeg))) (nI (cc - 1 - 1)).toNatClampNeg (vp_nar .byte (kf_DT (((((x) / ((100 : Int64))) * ((100 : Int64))) - (x)).toInt32).toNatClampNeg)))))]) [0] (by decide) rfl) hS  _ (lv_sub hl [1, 4, 0, 5] rfl)
set_option linter.constructorNameAsVariable false in
set_option maxHeartbeats 4000000 in
set_option maxRecDepth 100000 in
theorem mt_J13_getChars_11360 (l : Launch) (G : ky_G) (da : Nat) (mm : Nat) (ix : Nat) (f : Nat → Int32) (a0 : Int64) (sz : Nat) (hi : ky_szJ a0 ≤ ix) (hix : ix ≤ mm) (hmm : mm < 2 ^ 20) (hf : ky_fit f) : Met l my_J13_getChars_11360 (.code my_J13_getChars_11360 prog_19_method_14_code 11 (some .int) :: ky_B) { frames := 0, cells := 0, slots := 0, locals := 0 } (ky_P G [.long (a0), .int (nI (ix)), .ref da] ([(da, .inl (G.2.1 0, mm, .inl f))]) sz (fun _ => True)) (ky_Q (S := Nat → Int32) G (va_A ([(da, .inl (G.2.1 0, mm, .inl f))]) sz) (fun v u => (∃ z, v = some (.int z)) ∧ ky_fit u) (fun u => [(da, .inl (G.2.1 0, mm, .inl u))]) (fun _ _ => True)) (0) (0) (va_A ([(da, .inl (G.2.1 0, mm, .inl f))]) sz) := by
  refine ky_start (by decide) (Nat.le_of_ble_eq_true rfl) (fun p e s m below meth c F hE A hAe hsz hA hfr hP hD hS hX ls hl => ?_)
  obtain ⟨hx, hb, hml, hown, hr, hlocks, hts⟩ := id F
  have hl : lv_has ls 11 [(0, .long (a0)), (2, .int (nI (ix))), (3, .ref da)] := hl
  have hP : va_P G.1 kcl [(da, .inl (G.2.1 0, mm, .inl (f)))] s.heap := hP
  have hD : va_D A [(da, .inl (G.2.1 0, mm, .inl (f)))] := hD
  refine lv_iload_n hx hb dc_J13_getChars_11360_0 rfl (lv_at hl 1 rfl) ?_
  refine lv_istore (lv' := [(7, .int (nI (ix))), (0, .long (a0)), (2, .int (nI (ix))), (3, .ref da)]) hx hb dc_J13_getChars_11360_1 hl (by decide) rfl (fun ls hl => ?_)
  refine lv_lload_n hx hb dc_J13_getChars_11360_3 rfl (lv_at hl 1 rfl) ?_
  refine lv_lconst (v := 0) hx hb dc_J13_getChars_11360_4 (by decide) ?_
  refine W.lcmp hx hb dc_J13_getChars_11360_5 ?_
  refine lv_if_ge (tgt := 13) hx hb dc_J13_getChars_11360_6 (by decide) (fun c_0 => ?_) (fun c_0 => ?_)
  · skip
    refine lv_iconst (v := 0) hx hb dc_J13_getChars_11360_13 (by decide) ?_
    refine lv_istore (lv' := [(8, .int ((0 : Int32))), (7, .int (nI (ix))), (0, .long (a0)), (2, .int (nI (ix))), (3, .ref da)]) hx hb dc_J13_getChars_11360_14 hl (by decide) rfl (fun ls hl => ?_)
    refine lv_iload hx hb dc_J13_getChars_11360_16 (lv_at hl 0 rfl) ?_
    refine lv_if_ne (tgt := 24) hx hb dc_J13_getChars_11360_18 (by decide) (fun c_1 => absurd c_1 (by decide)) (fun _ => ?_)
    refine lv_lload_n hx hb dc_J13_getChars_11360_21 rfl (lv_at hl 2 rfl) ?_
    refine lv_lneg hx hb dc_J13_getChars_11360_22 ?_
    refine lv_lstore_n (lv' := [(0, .long (-(a0))), (8, .int ((0 : Int32))), (7, .int (nI (ix))), (2, .int (nI (ix))), (3, .ref da)]) hx hb dc_J13_getChars_11360_23 rfl hl (by decide) rfl (fun ls hl => ?_)
    have hs9 : ¬ a0 < 0 := Int64.not_lt.mpr ((lg_cmp_ge _ _).mp c_0)
    have hi2 := hi
    unfold ky_szJ at hi2
    rw [if_neg hs9] at hi2
    refine W.widen (k := 0) (n := 0) (by first | exact Nat.le_refl _ | omega | exact Nat.zero_le _) (by first | exact Nat.le_refl _ | omega | exact Nat.zero_le _) ?_
    exact ml_J13_getChars_11360_L24 (da := da) (mm := mm) (ix := ix) (f := f) (a0 := a0) F hE hA hfr  hmm (ky_d a0.toInt.natAbs) (-(a0)) a0.toInt.natAbs ix f (0 : Int32) (ky_absJ.2 hs9) (Nat.le_refl _) hi2 hix hf _ _ (hP.sub (ws' := [(da, .inl (G.2.1 0, mm, .inl (f)))]) [0] rfl) (hD.sub (ws' := [(da, .inl (G.2.1 0, mm, .inl (f)))]) [0] (by decide) rfl) hS  _ (lv_sub hl [0, 4, 2, 1] rfl)
  · skip
    refine lv_iconst (v := 1) hx hb dc_J13_getChars_11360_9 (by decide) ?_
    refine lv_goto (tgt := 14) hx hb dc_J13_getChars_11360_10 (by decide) ?_
    refine lv_istore (lv' := [(8, .int ((1 : Int32))), (7, .int (nI (ix))), (0, .long (a0)), (2, .int (nI (ix))), (3, .ref da)]) hx hb dc_J13_getChars_11360_14 hl (by decide) rfl (fun ls hl => ?_)
    refine lv_iload hx hb dc_J13_getChars_11360_16 (lv_at hl 0 rfl) ?_
    refine lv_if_ne (tgt := 24) hx hb dc_J13_getChars_11360_18 (by decide) (fun _ => ?_) (fun c_1 => absurd c_1 (by decide))
    have hs9 : a0 < 0 := Int64.not_le.mp (fun z => c_0 ((lg_cmp_ge _ _).mpr z))
    have hi2 := hi
    unfold ky_szJ at hi2
    rw [if_pos hs9] at hi2
    refine W.widen (k := 0) (n := 0) (by first | exact Nat.le_refl _ | omega | exact Nat.zero_le _) (by first | exact Nat.le_refl _ | omega | exact Nat.zero_le _) ?_
    exact ml_J13_getChars_11360_L24 (da := da) (mm := mm) (ix := ix) (f := f) (a0 := a0) F hE hA hfr  hmm (ky_d a0.toInt.natAbs) a0 a0.toInt.natAbs ix f (1 : Int32) (ky_absJ.1 hs9) (Nat.le_refl _) hi2 hix hf _ _ (hP.sub (ws' := [(da, .inl (G.2.1 0, mm, .inl (f)))]) [0] rfl) (hD.sub (ws' := [(da, .inl (G.2.1 0, mm, .inl (f)))]) [0] (by decide) rfl) hS  _ (lv_sub hl [2, 4, 1, 0] rfl)
set_option linter.constructorNameAsVariable false in
set_option maxHeartbeats 4000000 in
set_option maxRecDepth 100000 in
theorem mt_J5_append_c97b9 (l : Launch) (G : ky_G) (b : Nat) (va : Nat) (mm : Nat) (n : Nat) (f : Nat → Int32) (ml : Int32) (a1 : Int32) (sz : Nat) (hm : ky_m2 mm) (hf : ky_fit f) (hq : n + ky_szI a1 ≤ 34) : Met l my_J5_append_c97b9 (.code my_J5_append_c97b9 prog_12_method_32_code 4 (Option.some (Jvm.ClassFile.FieldType.object "java/lang/AbstractStringBuilder")) :: ky_B) { frames := 4, cells := ky_gc mm (n + ky_szI a1), slots := ky_gs mm (n + ky_szI a1), locals := 84 } (ky_P G [.ref b, .int (a1)] (ky_WT G b va mm n f ml) sz (fun _ => True)) (ky_Q (S := Nat × (Nat → Int32)) G (va_A (ky_WT G b va mm n f ml) sz) (fun v u => v = some (.ref b) ∧ ky_fit u.2) (fun u => ky_WT G b u.1 (ky_cap mm (n + ky_szI a1)) (n + ky_szI a1) u.2 ml) (fun _ _ => True)) (ky_gc mm (n + ky_szI a1)) (ky_gs mm (n + ky_szI a1)) (va_A (ky_WT G b va mm n f ml) sz) := by
  refine ky_start (by decide) (Nat.le_of_ble_eq_true rfl) (fun p e s m below meth c F hE A hAe hsz hA hfr hP hD hS hX ls hl => ?_)
  obtain ⟨hx, hb, hml, hown, hr, hlocks, hts⟩ := id F
  have hl : lv_has ls 4 [(0, .ref b), (1, .int (a1))] := hl
  have hP : va_P G.1 kcl [(b, .inr (6, [.ref va, .int (0), .int (ml), .int (nI (n))])), (va, .inl (G.2.1 0, mm, .inl (f)))] s.heap := hP
  have hD : va_D A [(b, .inr (6, [.ref va, .int (0), .int (ml), .int (nI (n))])), (va, .inl (G.2.1 0, mm, .inl (f)))] := hD
  refine lv_aload_n hx hb dc_J5_append_c97b9_0 rfl (lv_at hl 0 rfl) ?_
  refine va_get (D := G.1) (ci := 6) (v := .int (nI (n))) (C := RJ4) (T := TJ4) (N := 4) hx hb hts ki_J4 hown hE.1 hP 0 rfl rfl 3 (by decide) (hts _ kw_1_66) (fun _ h9 => h9) rfl dc_J5_append_c97b9_1 ?_
  refine lv_istore_n (lv' := [(2, .int (nI (n))), (0, .ref b), (1, .int (a1))]) hx hb dc_J5_append_c97b9_4 rfl hl (by decide) rfl (fun ls hl => ?_)
  refine lv_iload_n hx hb dc_J5_append_c97b9_5 rfl (lv_at hl 0 rfl) ?_
  refine lv_iload_n hx hb dc_J5_append_c97b9_6 rfl (lv_at hl 2 rfl) ?_
  refine ky_cSh (As := [.int (a1)]) (wr := [(b, .inr (6, [.ref va, .int (0), .int (ml), .int (nI (n))])), (va, .inl (G.2.1 0, mm, .inl (f)))]) F (hE.at hfr hS) hfr (mt_J6_stringSize_0f7a4 l G a1 s.heap.size ) ks_J5_245 ⟨⟨rfl, rfl⟩, Nat.le_of_ble_eq_true rfl, Nat.le_of_ble_eq_true rfl⟩ rfl hl.1 rfl (Nat.le_of_ble_eq_true rfl) ⟨by show (_ : Nat) ≤ ky_gc mm (n + ky_szI a1); omega, by show (_ : Nat) ≤ ky_gs mm (n + ky_szI a1); omega⟩ trivial hP hD hS hA [] [0, 1] rfl rfl (by decide) (by decide) (by decide) dc_J5_append_c97b9_7 ?_
  rintro v9 u9 H locs rfl hP hD hS - hz hk9
  have hP : va_P G.1 kcl [(b, .inr (6, [.ref va, .int (0), .int (ml), .int (nI (n))])), (va, .inl (G.2.1 0, mm, .inl (f)))] H := hP
  have hD : va_D A [(b, .inr (6, [.ref va, .int (0), .int (ml), .int (nI (n))])), (va, .inl (G.2.1 0, mm, .inl (f)))] := hD
  refine W.widen (k := 0) (n := 0) (by first | exact Nat.le_refl _ | omega) (by first | exact Nat.le_refl _ | omega) ?_
  refine lv_iadd hx hb dc_J5_append_c97b9_10 ?_
  rw [show (((nI (n)) + (nI (ky_szI (a1)))) : Int32) = nI (n + ky_szI a1) from nI_add _ _]
  refine lv_istore_n (lv' := [(3, .int (nI (n + ky_szI a1))), (2, .int (nI (n))), (0, .ref b), (1, .int (a1))]) hx hb dc_J5_append_c97b9_11 rfl hl (by decide) rfl (fun ls hl => ?_)
  refine lv_aload_n hx hb dc_J5_append_c97b9_12 rfl (lv_at hl 2 rfl) ?_
  refine lv_iload_n hx hb dc_J5_append_c97b9_13 rfl (lv_at hl 0 rfl) ?_
  refine ky_cUh (As := [.int (nI (n + ky_szI a1))]) (wr := []) F (hE.at hfr hS) hfr (mt_J5_ensureCapacityInternal_d00df l G b va mm n f ml (n + ky_szI a1) H.size hm hf (by omega)) (ku_J5_100.cu hE hts ⟨⟨rfl, rfl⟩, Nat.le_of_ble_eq_true rfl, Nat.le_of_ble_eq_true rfl⟩) rfl hl.1 rfl (Nat.le_of_ble_eq_true rfl) ⟨by show (_ : Nat) ≤ ky_gc mm (n + ky_szI a1); omega, by show (_ : Nat) ≤ ky_gs mm (n + ky_szI a1); omega⟩ (va_recv hE.1 hP (ci := 6) (q0 := 0) rfl rfl) trivial hP hD hS hA [0, 1] [] rfl rfl (by decide) (by decide) (by decide) dc_J5_append_c97b9_14 ?_
  rintro v9 ⟨va_1, f_1⟩ H locs ⟨rfl, hf_1⟩ hP hD hS - hz hk9
  have hP : va_P G.1 kcl [(b, .inr (6, [.ref va_1, .int (0), .int (ml), .int (nI (n))])), (va_1, .inl (G.2.1 0, ky_cap mm (n + ky_szI a1), .inl (f_1)))] H := hP
  have hD : va_D A [(b, .inr (6, [.ref va_1, .int (0), .int (ml), .int (nI (n))])), (va_1, .inl (G.2.1 0, ky_cap mm (n + ky_szI a1), .inl (f_1)))] := hD
  refine W.widen (k := (ky_gc mm (n + ky_szI a1))) (n := (ky_gs mm (n + ky_szI a1))) (by first | exact Nat.le_refl _ | omega) (by first | exact Nat.le_refl _ | omega) ?_
  have hle := hm.le hq
  refine lv_aload_n hx hb dc_J5_append_c97b9_17 rfl (lv_at hl 2 rfl) ?_
  refine ky_cUh (As := []) (wr := [(va_1, .inl (G.2.1 0, ky_cap mm (n + ky_szI a1), .inl (f_1)))]) F (hE.at hfr hS) hfr (mt_J5_isLatin1_aae02 l G b va_1 ml (nI (n)) H.size ) (ku_J5_83.cu hts ⟨⟨rfl, rfl⟩, Nat.le_of_ble_eq_true rfl, Nat.le_of_ble_eq_true rfl⟩) rfl hl.1 rfl (Nat.le_of_ble_eq_true rfl) ⟨by show (_ : Nat) ≤ ky_gc mm (n + ky_szI a1); omega, by show (_ : Nat) ≤ ky_gs mm (n + ky_szI a1); omega⟩ (va_recv hE.1 hP (ci := 6) (q0 := 0) rfl rfl) trivial hP hD hS hA [0] [1] rfl rfl (by decide) (by decide) (by decide) dc_J5_append_c97b9_18 ?_
  rintro v9 u9 H locs rfl hP hD hS - hz hk9
  have hP : va_P G.1 kcl [(va_1, .inl (G.2.1 0, ky_cap mm (n + ky_szI a1), .inl (f_1))), (b, .inr (6, [.ref va_1, .int (0), .int (ml), .int (nI (n))]))] H := hP
  have hD : va_D A [(va_1, .inl (G.2.1 0, ky_cap mm (n + ky_szI a1), .inl (f_1))), (b, .inr (6, [.ref va_1, .int (0), .int (ml), .int (nI (n))]))] := hD
  refine W.widen (k := (ky_gc mm (n + ky_szI a1))) (n := (ky_gs mm (n + ky_szI a1))) (by first | exact Nat.le_refl _ | omega) (by first | exact Nat.le_refl _ | omega) ?_
  refine lv_if_eq (tgt := 37) hx hb dc_J5_append_c97b9_21 (by decide) (fun c_3 => absurd c_3 (by decide)) (fun _ => ?_)
  refine lv_iload_n hx hb dc_J5_append_c97b9_24 rfl (lv_at hl 3 rfl) ?_
  refine lv_iload_n hx hb dc_J5_append_c97b9_25 rfl (lv_at hl 0 rfl) ?_
  refine lv_aload_n hx hb dc_J5_append_c97b9_26 rfl (lv_at hl 2 rfl) ?_
  refine va_get (D := G.1) (ci := 6) (v := .ref va_1) (C := RJ4) (T := TJ4) (N := 4) hx hb hts ki_J4 hown hE.1 hP 1 rfl rfl 0 (by decide) (hts _ kw_1_62) (fun _ h9 => h9) rfl dc_J5_append_c97b9_27 ?_
  refine ky_cSh (As := [.int (a1), .int (nI (n + ky_szI a1)), .ref va_1]) (wr := [(b, .inr (6, [.ref va_1, .int (0), .int (ml), .int (nI (n))]))]) F (hE.at hfr hS) hfr (mt_J6_getChars_ba4f3 l G va_1 (ky_cap mm (n + ky_szI a1)) (n + ky_szI a1) f_1 a1 H.size (Nat.le_add_left _ _) hle.1 (by omega) hf_1) ks_J5_248 ⟨⟨rfl, rfl⟩, Nat.le_of_ble_eq_true rfl, Nat.le_of_ble_eq_true rfl⟩ rfl hl.1 rfl (Nat.le_of_ble_eq_true rfl) ⟨by show (_ : Nat) ≤ ky_gc mm (n + ky_szI a1); omega, by show (_ : Nat) ≤ ky_gs mm (n + ky_szI a1); omega⟩ trivial hP hD hS hA [0] [1] rfl rfl (by decide) (by decide) (by decide) dc_J5_append_c97b9_30 ?_
  rintro v9 f_4 H locs ⟨⟨z_4, rfl⟩, hf_4⟩ hP hD hS - hz hk9
  have hP : va_P G.1 kcl [(b, .inr (6, [.ref va_1, .int (0), .int (ml), .int (nI (n))])), (va_1, .inl (G.2.1 0, ky_cap mm (n + ky_szI a1), .inl (f_4)))] H := hP
  have hD : va_D A [(b, .inr (6, [.ref va_1, .int (0), .int (ml), .int (nI (n))])), (va_1, .inl (G.2.1 0, ky_cap mm (n + ky_szI a1), .inl (f_4)))] := hD
  refine W.widen (k := (ky_gc mm (n + ky_szI a1))) (n := (ky_gs mm (n + ky_szI a1))) (by first | exact Nat.le_refl _ | omega) (by first | exact Nat.le_refl _ | omega) ?_
  refine lv_pop hx hb dc_J5_append_c97b9_33 rfl ?_
  refine lv_goto (tgt := 48) hx hb dc_J5_append_c97b9_34 (by decide) ?_
  refine lv_aload_n hx hb dc_J5_append_c97b9_48 rfl (lv_at hl 2 rfl) ?_
  refine lv_iload_n hx hb dc_J5_append_c97b9_49 rfl (lv_at hl 0 rfl) ?_
  refine va_put (D := G.1) (ci := 6) (v := .int (nI (n + ky_szI a1))) (ty := .int) (C := RJ4) (T := TJ4) (N := 4) hx hb hts ki_J4 tyJ4 tyJ4_ok nmJ4 hown hE.1 hP hD hS 0 rfl rfl 3 (by decide) (hts _ kw_1_66) (fun _ h9 => h9) rfl (by decide +kernel) rfl rfl (Nat.le_of_ble_eq_true rfl) dc_J5_append_c97b9_50 (fun H locs hP hD hS => ?_)
  have hP : va_P G.1 kcl [(b, .inr (6, [.ref va_1, .int (0), .int (ml), .int (nI (n + ky_szI a1))])), (va_1, .inl (G.2.1 0, ky_cap mm (n + ky_szI a1), .inl (f_4)))] H := hP
  have hD : va_D A [(b, .inr (6, [.ref va_1, .int (0), .int (ml), .int (nI (n + ky_szI a1))])), (va_1, .inl (G.2.1 0, ky_cap mm (n + ky_szI a1), .inl (f_4)))] := hD
  refine lv_aload_n hx hb dc_J5_append_c97b9_53 rfl (lv_at hl 2 rfl) ?_
  have hP9 := hP.sub (ws' := [(b, .inr (6, [.ref va_1, .int (0), .int (ml), .int (nI (n + ky_szI a1))])), (va_1, .inl (G.2.1 0, ky_cap mm (n + ky_szI a1), .inl (f_4)))]) [0, 1] rfl
  have hD9 := hD.sub (ws' := [(b, .inr (6, [.ref va_1, .int (0), .int (ml), .int (nI (n + ky_szI a1))])), (va_1, .inl (G.2.1 0, ky_cap mm (n + ky_szI a1), .inl (f_4)))]) [0, 1] (by decide) rfl
  refine W.widen (k := ky_gc mm (n + ky_szI a1)) (n := ky_gs mm (n + ky_szI a1)) (by omega) (by omega) ?_
  exact W.aret (v := .ref b) hx hb hr (Or.inl ⟨_, rfl⟩) (Or.inr ⟨_, rfl⟩) (fun t ht hW => ⟨⟨_, (va_1, f_4), rfl, ⟨rfl, hf_4⟩, by rw [ht]; exact hP9, hD9, trivial⟩, hS.F ht⟩) hS.2.2 dc_J5_append_c97b9_54
set_option linter.constructorNameAsVariable false in
set_option maxHeartbeats 4000000 in
set_option maxRecDepth 100000 in
theorem mt_J4_append_bf812 (l : Launch) (G : ky_G) (b : Nat) (va : Nat) (mm : Nat) (n : Nat) (f : Nat → Int32) (ml : Int32) (a1 : Int32) (sz : Nat) (hm : ky_m2 mm) (hf : ky_fit f) (hq : n + ky_szI a1 ≤ 34) : Met l my_J4_append_bf812 (.code my_J4_append_bf812 prog_23_method_15_code 2 (Option.some (Jvm.ClassFile.FieldType.object "java/lang/StringBuilder")) :: ky_B) { frames := 5, cells := ky_gc mm (n + ky_szI a1), slots := ky_gs mm (n + ky_szI a1), locals := 107 } (ky_P G [.ref b, .int (a1)] (ky_WT G b va mm n f ml) sz (fun _ => True)) (ky_Q (S := Nat × (Nat → Int32)) G (va_A (ky_WT G b va mm n f ml) sz) (fun v u => v = some (.ref b) ∧ ky_fit u.2) (fun u => ky_WT G b u.1 (ky_cap mm (n + ky_szI a1)) (n + ky_szI a1) u.2 ml) (fun _ _ => True)) (ky_gc mm (n + ky_szI a1)) (ky_gs mm (n + ky_szI a1)) (va_A (ky_WT G b va mm n f ml) sz) := by
  refine ky_start (by decide) (Nat.le_of_ble_eq_true rfl) (fun p e s m below meth c F hE A hAe hsz hA hfr hP hD hS hX ls hl => ?_)
  obtain ⟨hx, hb, hml, hown, hr, hlocks, hts⟩ := id F
  have hl : lv_has ls 2 [(0, .ref b), (1, .int (a1))] := hl
  have hP : va_P G.1 kcl [(b, .inr (6, [.ref va, .int (0), .int (ml), .int (nI (n))])), (va, .inl (G.2.1 0, mm, .inl (f)))] s.heap := hP
  have hD : va_D A [(b, .inr (6, [.ref va, .int (0), .int (ml), .int (nI (n))])), (va, .inl (G.2.1 0, mm, .inl (f)))] := hD
  refine lv_aload_n hx hb dc_J4_append_bf812_0 rfl (lv_at hl 0 rfl) ?_
  refine lv_iload_n hx hb dc_J4_append_bf812_1 rfl (lv_at hl 1 rfl) ?_
  refine ky_cWh (ci := 6) (As := [.int (a1)]) (wr := []) F (hE.at hfr hS) hfr hE.1 rfl (mt_J5_append_c97b9 l G b va mm n f ml a1 s.heap.size hm hf hq) ku_J4_53 ⟨⟨rfl, rfl⟩, Nat.le_of_ble_eq_true rfl, Nat.le_of_ble_eq_true rfl⟩ rfl hl.1 rfl (Nat.le_of_ble_eq_true rfl) ⟨by show (_ : Nat) ≤ ky_gc mm (n + ky_szI a1); omega, by show (_ : Nat) ≤ ky_gs mm (n + ky_szI a1); omega⟩ (va_recv hE.1 hP (ci := 6) (q0 := 0) rfl rfl) trivial hP hD hS hA [0, 1] [] rfl rfl (by decide) (by decide) (by decide) dc_J4_append_bf812_2 ?_
  rintro v9 ⟨va_0, f_0⟩ H locs ⟨rfl, hf_0⟩ hP hD hS - hz hk9
  have hP : va_P G.1 kcl [(b, .inr (6, [.ref va_0, .int (0), .int (ml), .int (nI (n + ky_szI a1))])), (va_0, .inl (G.2.1 0, ky_cap mm (n + ky_szI a1), .inl (f_0)))] H := hP
  have hD : va_D A [(b, .inr (6, [.ref va_0, .int (0), .int (ml), .int (nI (n + ky_szI a1))])), (va_0, .inl (G.2.1 0, ky_cap mm (n + ky_szI a1), .inl (f_0)))] := hD
  refine W.widen (k := (ky_gc mm (n + ky_szI a1))) (n := (ky_gs mm (n + ky_szI a1))) (by first | exact Nat.le_refl _ | omega) (by first | exact Nat.le_refl _ | omega) ?_
  refine lv_pop hx hb dc_J4_append_bf812_5 rfl ?_
  refine lv_aload_n hx hb dc_J4_append_bf812_6 rfl (lv_at hl 0 rfl) ?_
  have hP9 := hP.sub (ws' := [(b, .inr (6, [.ref va_0, .int (0), .int (ml), .int (nI (n + ky_szI a1))])), (va_0, .inl (G.2.1 0, ky_cap mm (n + ky_szI a1), .inl (f_0)))]) [0, 1] rfl
  have hD9 := hD.sub (ws' := [(b, .inr (6, [.ref va_0, .int (0), .int (ml), .int (nI (n + ky_szI a1))])), (va_0, .inl (G.2.1 0, ky_cap mm (n + ky_szI a1), .inl (f_0)))]) [0, 1] (by decide) rfl
  refine W.widen (k := ky_gc mm (n + ky_szI a1)) (n := ky_gs mm (n + ky_szI a1)) (by omega) (by omega) ?_
  exact W.aret (v := .ref b) hx hb hr (Or.inl ⟨_, rfl⟩) (Or.inr ⟨_, rfl⟩) (fun t ht hW => ⟨⟨_, (va_0, f_0), rfl, ⟨rfl, hf_0⟩, by rw [ht]; exact hP9, hD9, trivial⟩, hS.F ht⟩) hS.2.2 dc_J4_append_bf812_7
set_option linter.constructorNameAsVariable false in
set_option maxHeartbeats 4000000 in
set_option maxRecDepth 100000 in
theorem mt_J5_append_66267 (l : Launch) (G : ky_G) (b : Nat) (va : Nat) (mm : Nat) (n : Nat) (f : Nat → Int32) (ml : Int32) (a1 : Int64) (sz : Nat) (hm : ky_m2 mm) (hf : ky_fit f) (hq : n + ky_szJ a1 ≤ 34) : Met l my_J5_append_66267 (.code my_J5_append_66267 prog_12_method_33_code 5 (Option.some (Jvm.ClassFile.FieldType.object "java/lang/AbstractStringBuilder")) :: ky_B) { frames := 4, cells := ky_gc mm (n + ky_szJ a1), slots := ky_gs mm (n + ky_szJ a1), locals := 84 } (ky_P G [.ref b, .long (a1)] (ky_WT G b va mm n f ml) sz (fun _ => True)) (ky_Q (S := Nat × (Nat → Int32)) G (va_A (ky_WT G b va mm n f ml) sz) (fun v u => v = some (.ref b) ∧ ky_fit u.2) (fun u => ky_WT G b u.1 (ky_cap mm (n + ky_szJ a1)) (n + ky_szJ a1) u.2 ml) (fun _ _ => True)) (ky_gc mm (n + ky_szJ a1)) (ky_gs mm (n + ky_szJ a1)) (va_A (ky_WT G b va mm n f ml) sz) := by
  refine ky_start (by decide) (Nat.le_of_ble_eq_true rfl) (fun p e s m below meth c F hE A hAe hsz hA hfr hP hD hS hX ls hl => ?_)
  obtain ⟨hx, hb, hml, hown, hr, hlocks, hts⟩ := id F
  have hl : lv_has ls 5 [(0, .ref b), (1, .long (a1))] := hl
  have hP : va_P G.1 kcl [(b, .inr (6, [.ref va, .int (0), .int (ml), .int (nI (n))])), (va, .inl (G.2.1 0, mm, .inl (f)))] s.heap := hP
  have hD : va_D A [(b, .inr (6, [.ref va, .int (0), .int (ml), .int (nI (n))])), (va, .inl (G.2.1 0, mm, .inl (f)))] := hD
  refine lv_aload_n hx hb dc_J5_append_66267_0 rfl (lv_at hl 0 rfl) ?_
  refine va_get (D := G.1) (ci := 6) (v := .int (nI (n))) (C := RJ4) (T := TJ4) (N := 4) hx hb hts ki_J4 hown hE.1 hP 0 rfl rfl 3 (by decide) (hts _ kw_1_66) (fun _ h9 => h9) rfl dc_J5_append_66267_1 ?_
  refine lv_istore_n (lv' := [(3, .int (nI (n))), (0, .ref b), (1, .long (a1))]) hx hb dc_J5_append_66267_4 rfl hl (by decide) rfl (fun ls hl => ?_)
  refine lv_iload_n hx hb dc_J5_append_66267_5 rfl (lv_at hl 0 rfl) ?_
  refine lv_lload_n hx hb dc_J5_append_66267_6 rfl (lv_at hl 2 rfl) ?_
  refine ky_cSh (As := [.long (a1)]) (wr := [(b, .inr (6, [.ref va, .int (0), .int (ml), .int (nI (n))])), (va, .inl (G.2.1 0, mm, .inl (f)))]) F (hE.at hfr hS) hfr (mt_J13_stringSize_95d88 l G a1 s.heap.size ) ks_J5_254 ⟨⟨rfl, rfl⟩, Nat.le_of_ble_eq_true rfl, Nat.le_of_ble_eq_true rfl⟩ rfl hl.1 rfl (Nat.le_of_ble_eq_true rfl) ⟨by show (_ : Nat) ≤ ky_gc mm (n + ky_szJ a1); omega, by show (_ : Nat) ≤ ky_gs mm (n + ky_szJ a1); omega⟩ trivial hP hD hS hA [] [0, 1] rfl rfl (by decide) (by decide) (by decide) dc_J5_append_66267_7 ?_
  rintro v9 u9 H locs rfl hP hD hS - hz hk9
  have hP : va_P G.1 kcl [(b, .inr (6, [.ref va, .int (0), .int (ml), .int (nI (n))])), (va, .inl (G.2.1 0, mm, .inl (f)))] H := hP
  have hD : va_D A [(b, .inr (6, [.ref va, .int (0), .int (ml), .int (nI (n))])), (va, .inl (G.2.1 0, mm, .inl (f)))] := hD
  refine W.widen (k := 0) (n := 0) (by first | exact Nat.le_refl _ | omega) (by first | exact Nat.le_refl _ | omega) ?_
  refine lv_iadd hx hb dc_J5_append_66267_10 ?_
  rw [show (((nI (n)) + (nI (ky_szJ (a1)))) : Int32) = nI (n + ky_szJ a1) from nI_add _ _]
  refine lv_istore (lv' := [(4, .int (nI (n + ky_szJ a1))), (3, .int (nI (n))), (0, .ref b), (1, .long (a1))]) hx hb dc_J5_append_66267_11 hl (by decide) rfl (fun ls hl => ?_)
  refine lv_aload_n hx hb dc_J5_append_66267_13 rfl (lv_at hl 2 rfl) ?_
  refine lv_iload hx hb dc_J5_append_66267_14 (lv_at hl 0 rfl) ?_
  refine ky_cUh (As := [.int (nI (n + ky_szJ a1))]) (wr := []) F (hE.at hfr hS) hfr (mt_J5_ensureCapacityInternal_d00df l G b va mm n f ml (n + ky_szJ a1) H.size hm hf (by omega)) (ku_J5_100.cu hE hts ⟨⟨rfl, rfl⟩, Nat.le_of_ble_eq_true rfl, Nat.le_of_ble_eq_true rfl⟩) rfl hl.1 rfl (Nat.le_of_ble_eq_true rfl) ⟨by show (_ : Nat) ≤ ky_gc mm (n + ky_szJ a1); omega, by show (_ : Nat) ≤ ky_gs mm (n + ky_szJ a1); omega⟩ (va_recv hE.1 hP (ci := 6) (q0 := 0) rfl rfl) trivial hP hD hS hA [0, 1] [] rfl rfl (by decide) (by decide) (by decide) dc_J5_append_66267_16 ?_
  rintro v9 ⟨va_1, f_1⟩ H locs ⟨rfl, hf_1⟩ hP hD hS - hz hk9
  have hP : va_P G.1 kcl [(b, .inr (6, [.ref va_1, .int (0), .int (ml), .int (nI (n))])), (va_1, .inl (G.2.1 0, ky_cap mm (n + ky_szJ a1), .inl (f_1)))] H := hP
  have hD : va_D A [(b, .inr (6, [.ref va_1, .int (0), .int (ml), .int (nI (n))])), (va_1, .inl (G.2.1 0, ky_cap mm (n + ky_szJ a1), .inl (f_1)))] := hD
  refine W.widen (k := (ky_gc mm (n + ky_szJ a1))) (n := (ky_gs mm (n + ky_szJ a1))) (by first | exact Nat.le_refl _ | omega) (by first | exact Nat.le_refl _ | omega) ?_
  have hle := hm.le hq
  refine lv_aload_n hx hb dc_J5_append_66267_19 rfl (lv_at hl 2 rfl) ?_
  refine ky_cUh (As := []) (wr := [(va_1, .inl (G.2.1 0, ky_cap mm (n + ky_szJ a1), .inl (f_1)))]) F (hE.at hfr hS) hfr (mt_J5_isLatin1_aae02 l G b va_1 ml (nI (n)) H.size ) (ku_J5_83.cu hts ⟨⟨rfl, rfl⟩, Nat.le_of_ble_eq_true rfl, Nat.le_of_ble_eq_true rfl⟩) rfl hl.1 rfl (Nat.le_of_ble_eq_true rfl) ⟨by show (_ : Nat) ≤ ky_gc mm (n + ky_szJ a1); omega, by show (_ : Nat) ≤ ky_gs mm (n + ky_szJ a1); omega⟩ (va_recv hE.1 hP (ci := 6) (q0 := 0) rfl rfl) trivial hP hD hS hA [0] [1] rfl rfl (by decide) (by decide) (by decide) dc_J5_append_66267_20 ?_
  rintro v9 u9 H locs rfl hP hD hS - hz hk9
  have hP : va_P G.1 kcl [(va_1, .inl (G.2.1 0, ky_cap mm (n + ky_szJ a1), .inl (f_1))), (b, .inr (6, [.ref va_1, .int (0), .int (ml), .int (nI (n))]))] H := hP
  have hD : va_D A [(va_1, .inl (G.2.1 0, ky_cap mm (n + ky_szJ a1), .inl (f_1))), (b, .inr (6, [.ref va_1, .int (0), .int (ml), .int (nI (n))]))] := hD
  refine W.widen (k := (ky_gc mm (n + ky_szJ a1))) (n := (ky_gs mm (n + ky_szJ a1))) (by first | exact Nat.le_refl _ | omega) (by first | exact Nat.le_refl _ | omega) ?_
  refine lv_if_eq (tgt := 40) hx hb dc_J5_append_66267_23 (by decide) (fun c_3 => absurd c_3 (by decide)) (fun _ => ?_)
  refine lv_lload_n hx hb dc_J5_append_66267_26 rfl (lv_at hl 3 rfl) ?_
  refine lv_iload hx hb dc_J5_append_66267_27 (lv_at hl 0 rfl) ?_
  refine lv_aload_n hx hb dc_J5_append_66267_29 rfl (lv_at hl 2 rfl) ?_
  refine va_get (D := G.1) (ci := 6) (v := .ref va_1) (C := RJ4) (T := TJ4) (N := 4) hx hb hts ki_J4 hown hE.1 hP 1 rfl rfl 0 (by decide) (hts _ kw_1_62) (fun _ h9 => h9) rfl dc_J5_append_66267_30 ?_
  refine ky_cSh (As := [.long (a1), .int (nI (n + ky_szJ a1)), .ref va_1]) (wr := [(b, .inr (6, [.ref va_1, .int (0), .int (ml), .int (nI (n))]))]) F (hE.at hfr hS) hfr (mt_J13_getChars_11360 l G va_1 (ky_cap mm (n + ky_szJ a1)) (n + ky_szJ a1) f_1 a1 H.size (Nat.le_add_left _ _) hle.1 (by omega) hf_1) ks_J5_259 ⟨⟨rfl, rfl⟩, Nat.le_of_ble_eq_true rfl, Nat.le_of_ble_eq_true rfl⟩ rfl hl.1 rfl (Nat.le_of_ble_eq_true rfl) ⟨by show (_ : Nat) ≤ ky_gc mm (n + ky_szJ a1); omega, by show (_ : Nat) ≤ ky_gs mm (n + ky_szJ a1); omega⟩ trivial hP hD hS hA [0] [1] rfl rfl (by decide) (by decide) (by decide) dc_J5_append_66267_33 ?_
  rintro v9 f_4 H locs ⟨⟨z_4, rfl⟩, hf_4⟩ hP hD hS - hz hk9
  have hP : va_P G.1 kcl [(b, .inr (6, [.ref va_1, .int (0), .int (ml), .int (nI (n))])), (va_1, .inl (G.2.1 0, ky_cap mm (n + ky_szJ a1), .inl (f_4)))] H := hP
  have hD : va_D A [(b, .inr (6, [.ref va_1, .int (0), .int (ml), .int (nI (n))])), (va_1, .inl (G.2.1 0, ky_cap mm (n + ky_szJ a1), .inl (f_4)))] := hD
  refine W.widen (k := (ky_gc mm (n + ky_szJ a1))) (n := (ky_gs mm (n + ky_szJ a1))) (by first | exact Nat.le_refl _ | omega) (by first | exact Nat.le_refl _ | omega) ?_
  refine lv_pop hx hb dc_J5_append_66267_36 rfl ?_
  refine lv_goto (tgt := 52) hx hb dc_J5_append_66267_37 (by decide) ?_
  refine lv_aload_n hx hb dc_J5_append_66267_52 rfl (lv_at hl 2 rfl) ?_
  refine lv_iload hx hb dc_J5_append_66267_53 (lv_at hl 0 rfl) ?_
  refine va_put (D := G.1) (ci := 6) (v := .int (nI (n + ky_szJ a1))) (ty := .int) (C := RJ4) (T := TJ4) (N := 4) hx hb hts ki_J4 tyJ4 tyJ4_ok nmJ4 hown hE.1 hP hD hS 0 rfl rfl 3 (by decide) (hts _ kw_1_66) (fun _ h9 => h9) rfl (by decide +kernel) rfl rfl (Nat.le_of_ble_eq_true rfl) dc_J5_append_66267_55 (fun H locs hP hD hS => ?_)
  have hP : va_P G.1 kcl [(b, .inr (6, [.ref va_1, .int (0), .int (ml), .int (nI (n + ky_szJ a1))])), (va_1, .inl (G.2.1 0, ky_cap mm (n + ky_szJ a1), .inl (f_4)))] H := hP
  have hD : va_D A [(b, .inr (6, [.ref va_1, .int (0), .int (ml), .int (nI (n + ky_szJ a1))])), (va_1, .inl (G.2.1 0, ky_cap mm (n + ky_szJ a1), .inl (f_4)))] := hD
  refine lv_aload_n hx hb dc_J5_append_66267_58 rfl (lv_at hl 2 rfl) ?_
  have hP9 := hP.sub (ws' := [(b, .inr (6, [.ref va_1, .int (0), .int (ml), .int (nI (n + ky_szJ a1))])), (va_1, .inl (G.2.1 0, ky_cap mm (n + ky_szJ a1), .inl (f_4)))]) [0, 1] rfl
  have hD9 := hD.sub (ws' := [(b, .inr (6, [.ref va_1, .int (0), .int (ml), .int (nI (n + ky_szJ a1))])), (va_1, .inl (G.2.1 0, ky_cap mm (n + ky_szJ a1), .inl (f_4)))]) [0, 1] (by decide) rfl
  refine W.widen (k := ky_gc mm (n + ky_szJ a1)) (n := ky_gs mm (n + ky_szJ a1)) (by omega) (by omega) ?_
  exact W.aret (v := .ref b) hx hb hr (Or.inl ⟨_, rfl⟩) (Or.inr ⟨_, rfl⟩) (fun t ht hW => ⟨⟨_, (va_1, f_4), rfl, ⟨rfl, hf_4⟩, by rw [ht]; exact hP9, hD9, trivial⟩, hS.F ht⟩) hS.2.2 dc_J5_append_66267_59
set_option linter.constructorNameAsVariable false in
set_option maxHeartbeats 4000000 in
set_option maxRecDepth 100000 in
theorem mt_J4_append_f7089 (l : Launch) (G : ky_G) (b : Nat) (va : Nat) (mm : Nat) (n : Nat) (f : Nat → Int32) (ml : Int32) (a1 : Int64) (sz : Nat) (hm : ky_m2 mm) (hf : ky_fit f) (hq : n + ky_szJ a1 ≤ 34) : Met l my_J4_append_f7089 (.code my_J4_append_f7089 prog_23_method_16_code 3 (Option.some (Jvm.ClassFile.FieldType.object "java/lang/StringBuilder")) :: ky_B) { frames := 5, cells := ky_gc mm (n + ky_szJ a1), slots := ky_gs mm (n + ky_szJ a1), locals := 108 } (ky_P G [.ref b, .long (a1)] (ky_WT G b va mm n f ml) sz (fun _ => True)) (ky_Q (S := Nat × (Nat → Int32)) G (va_A (ky_WT G b va mm n f ml) sz) (fun v u => v = some (.ref b) ∧ ky_fit u.2) (fun u => ky_WT G b u.1 (ky_cap mm (n + ky_szJ a1)) (n + ky_szJ a1) u.2 ml) (fun _ _ => True)) (ky_gc mm (n + ky_szJ a1)) (ky_gs mm (n + ky_szJ a1)) (va_A (ky_WT G b va mm n f ml) sz) := by
  refine ky_start (by decide) (Nat.le_of_ble_eq_true rfl) (fun p e s m below meth c F hE A hAe hsz hA hfr hP hD hS hX ls hl => ?_)
  obtain ⟨hx, hb, hml, hown, hr, hlocks, hts⟩ := id F
  have hl : lv_has ls 3 [(0, .ref b), (1, .long (a1))] := hl
  have hP : va_P G.1 kcl [(b, .inr (6, [.ref va, .int (0), .int (ml), .int (nI (n))])), (va, .inl (G.2.1 0, mm, .inl (f)))] s.heap := hP
  have hD : va_D A [(b, .inr (6, [.ref va, .int (0), .int (ml), .int (nI (n))])), (va, .inl (G.2.1 0, mm, .inl (f)))] := hD
  refine lv_aload_n hx hb dc_J4_append_f7089_0 rfl (lv_at hl 0 rfl) ?_
  refine lv_lload_n hx hb dc_J4_append_f7089_1 rfl (lv_at hl 1 rfl) ?_
  refine ky_cWh (ci := 6) (As := [.long (a1)]) (wr := []) F (hE.at hfr hS) hfr hE.1 rfl (mt_J5_append_66267 l G b va mm n f ml a1 s.heap.size hm hf hq) ku_J4_56 ⟨⟨rfl, rfl⟩, Nat.le_of_ble_eq_true rfl, Nat.le_of_ble_eq_true rfl⟩ rfl hl.1 rfl (Nat.le_of_ble_eq_true rfl) ⟨by show (_ : Nat) ≤ ky_gc mm (n + ky_szJ a1); omega, by show (_ : Nat) ≤ ky_gs mm (n + ky_szJ a1); omega⟩ (va_recv hE.1 hP (ci := 6) (q0 := 0) rfl rfl) trivial hP hD hS hA [0, 1] [] rfl rfl (by decide) (by decide) (by decide) dc_J4_append_f7089_2 ?_
  rintro v9 ⟨va_0, f_0⟩ H locs ⟨rfl, hf_0⟩ hP hD hS - hz hk9
  have hP : va_P G.1 kcl [(b, .inr (6, [.ref va_0, .int (0), .int (ml), .int (nI (n + ky_szJ a1))])), (va_0, .inl (G.2.1 0, ky_cap mm (n + ky_szJ a1), .inl (f_0)))] H := hP
  have hD : va_D A [(b, .inr (6, [.ref va_0, .int (0), .int (ml), .int (nI (n + ky_szJ a1))])), (va_0, .inl (G.2.1 0, ky_cap mm (n + ky_szJ a1), .inl (f_0)))] := hD
  refine W.widen (k := (ky_gc mm (n + ky_szJ a1))) (n := (ky_gs mm (n + ky_szJ a1))) (by first | exact Nat.le_refl _ | omega) (by first | exact Nat.le_refl _ | omega) ?_
  refine lv_pop hx hb dc_J4_append_f7089_5 rfl ?_
  refine lv_aload_n hx hb dc_J4_append_f7089_6 rfl (lv_at hl 0 rfl) ?_
  have hP9 := hP.sub (ws' := [(b, .inr (6, [.ref va_0, .int (0), .int (ml), .int (nI (n + ky_szJ a1))])), (va_0, .inl (G.2.1 0, ky_cap mm (n + ky_szJ a1), .inl (f_0)))]) [0, 1] rfl
  have hD9 := hD.sub (ws' := [(b, .inr (6, [.ref va_0, .int (0), .int (ml), .int (nI (n + ky_szJ a1))])), (va_0, .inl (G.2.1 0, ky_cap mm (n + ky_szJ a1), .inl (f_0)))]) [0, 1] (by decide) rfl
  refine W.widen (k := ky_gc mm (n + ky_szJ a1)) (n := ky_gs mm (n + ky_szJ a1)) (by omega) (by omega) ?_
  exact W.aret (v := .ref b) hx hb hr (Or.inl ⟨_, rfl⟩) (Or.inr ⟨_, rfl⟩) (fun t ht hW => ⟨⟨_, (va_0, f_0), rfl, ⟨rfl, hf_0⟩, by rw [ht]; exact hP9, hD9, trivial⟩, hS.F ht⟩) hS.2.2 dc_J4_append_f7089_7
end
section
/-! texts out of builders -/
theorem ky_E.castN {G : ky_G} {U : State} (hE : ky_E G U) {C T : String} (h : Cond.castable C T ∈ lw_tbl) : va_Nw (.castable C T) U := by
  obtain ⟨b, h1, -⟩ := hE.narrow
  exact va_Nw.warmC hE.2.2.2.1 (va_any (A' := #[]) rfl (h1 _ h))
theorem ky_fitA {cA : ClassId} {n : Nat} {f : Nat → Int32} (h : ky_fit f) : ∀ (i : Nat) (v : Value), (vp_cell cA (n, .inl f)).slots[i]? = some v → fits .byte v = true := by
  intro i v hv
  rw [vp_cell_i] at hv
  have hi : i < n := by
    have := (Array.getElem?_eq_some_iff.mp hv).1
    rwa [arrV_size] at this
  have e : v = .int (f i) := by
    have := hv
    simp [arrV, hi] at this
    exact this.symm
  rw [e]
  exact h i
theorem ky_nmB {G : ky_G} {U : State} (hE : ky_E G U) : U.vm.findClass "[B" = some (G.2.1 0) := (hE.1.2 0 _ rfl).2
theorem ky_mn {n m : Nat} (h : n ≤ m) (hm : m < 2 ^ 20) : jimin (nI m - 0) (nI n) = nI n := by
  have e : nI m - 0 = nI m := by simp
  rw [e]
  unfold jimin
  by_cases c : n < m
  · rw [if_pos (nI_lt c (by omega))]
  · rw [show n = m by omega, if_neg (nI_nlt (Nat.le_refl _) (by omega))]
end
section
abbrev my_J7_checkLength_df160 : MethodName := ⟨"java/util/Arrays", "checkLength", "(II)V"⟩
abbrev my_J7_copyOfRangeByte_39247 : MethodName := ⟨"java/util/Arrays", "copyOfRangeByte", "([BII)[B"⟩
abbrev my_J7_copyOfRange_39247 : MethodName := ⟨"java/util/Arrays", "copyOfRange", "([BII)[B"⟩
abbrev my_J0_init_db425 : MethodName := ⟨"java/lang/String", "<init>", "(Ljava/lang/AbstractStringBuilder;Ljava/lang/Void;)V"⟩
abbrev my_J0_init_81219 : MethodName := ⟨"java/lang/String", "<init>", "(Ljava/lang/StringBuilder;)V"⟩
abbrev my_J4_toString_0e30d : MethodName := ⟨"java/lang/StringBuilder", "toString", "()Ljava/lang/String;"⟩
theorem kw_2_102 : (Jvm.Cond.code ({ cls := "java/util/Arrays", name := "checkLength", desc := "(II)V" } : Jvm.MethodName) prog_29_method_131_code (2 : Nat) (Option.none : Option Jvm.ClassFile.FieldType)) ∈ ky_B := ky_mem (kc_2 _ (List.mem_of_getElem? (i := 102) rfl)) (by decide +kernel)
theorem kB_2_100 : (tables_1_2[(100 : Nat)]? = some (Jvm.Cond.methodLink "java/util/Arrays" (343 : Nat) ({ cls := "java/util/Arrays", name := "checkLength", desc := "(II)V" } : Jvm.MethodName)) ∧ goodWord (Jvm.Cond.methodLink "java/util/Arrays" (343 : Nat) ({ cls := "java/util/Arrays", name := "checkLength", desc := "(II)V" } : Jvm.MethodName)) = true) ∧ (tables_1_2[(101 : Nat)]? = some (Jvm.Cond.static ({ cls := "java/util/Arrays", name := "checkLength", desc := "(II)V" } : Jvm.MethodName)) ∧ goodWord (Jvm.Cond.static ({ cls := "java/util/Arrays", name := "checkLength", desc := "(II)V" } : Jvm.MethodName)) = true) ∧ (tables_1_1[(196 : Nat)]? = some (Jvm.Cond.sameMethod "[B" "java/lang/Object" "clone" "()Ljava/lang/Object;") ∧ goodWord (Jvm.Cond.sameMethod "[B" "java/lang/Object" "clone" "()Ljava/lang/Object;") = true) ∧ (tables_1_1[(197 : Nat)]? = some (Jvm.Cond.native ({ cls := "java/lang/Object", name := "clone", desc := "()Ljava/lang/Object;" } : Jvm.MethodName)) ∧ goodWord (Jvm.Cond.native ({ cls := "java/lang/Object", name := "clone", desc := "()Ljava/lang/Object;" } : Jvm.MethodName)) = true) ∧ (tables_1_1[(198 : Nat)]? = some (Jvm.Cond.instanceMethod ({ cls := "java/lang/Object", name := "clone", desc := "()Ljava/lang/Object;" } : Jvm.MethodName)) ∧ goodWord (Jvm.Cond.instanceMethod ({ cls := "java/lang/Object", name := "clone", desc := "()Ljava/lang/Object;" } : Jvm.MethodName)) = true) ∧ (tables_1_1[(199 : Nat)]? = some (Jvm.Cond.selects "[B" ({ cls := "[B", name := "clone", desc := "()Ljava/lang/Object;" } : Jvm.MethodName) ({ cls := "java/lang/Object", name := "clone", desc := "()Ljava/lang/Object;" } : Jvm.MethodName)) ∧ goodWord (Jvm.Cond.selects "[B" ({ cls := "[B", name := "clone", desc := "()Ljava/lang/Object;" } : Jvm.MethodName) ({ cls := "java/lang/Object", name := "clone", desc := "()Ljava/lang/Object;" } : Jvm.MethodName)) = true) ∧ (tables_1_1[(195 : Nat)]? = some (Jvm.Cond.methodLink "java/util/Arrays" (310 : Nat) ({ cls := "[B", name := "clone", desc := "()Ljava/lang/Object;" } : Jvm.MethodName)) ∧ goodWord (Jvm.Cond.methodLink "java/util/Arrays" (310 : Nat) ({ cls := "[B", name := "clone", desc := "()Ljava/lang/Object;" } : Jvm.MethodName)) = true) ∧ (tables_1_1[(201 : Nat)]? = some (Jvm.Cond.classLink "java/util/Arrays" (311 : Nat) "[B") ∧ goodWord (Jvm.Cond.classLink "java/util/Arrays" (311 : Nat) "[B") = true) ∧ (tables_1_2[(97 : Nat)]? = some (Jvm.Cond.methodLink "java/util/Arrays" (339 : Nat) ({ cls := "java/util/Arrays", name := "copyOfRangeByte", desc := "([BII)[B" } : Jvm.MethodName)) ∧ goodWord (Jvm.Cond.methodLink "java/util/Arrays" (339 : Nat) ({ cls := "java/util/Arrays", name := "copyOfRangeByte", desc := "([BII)[B" } : Jvm.MethodName)) = true) ∧ (tables_1_2[(98 : Nat)]? = some (Jvm.Cond.static ({ cls := "java/util/Arrays", name := "copyOfRangeByte", desc := "([BII)[B" } : Jvm.MethodName)) ∧ goodWord (Jvm.Cond.static ({ cls := "java/util/Arrays", name := "copyOfRangeByte", desc := "([BII)[B" } : Jvm.MethodName)) = true) := by decide +kernel
theorem kw_2_100 : (Jvm.Cond.methodLink "java/util/Arrays" (343 : Nat) ({ cls := "java/util/Arrays", name := "checkLength", desc := "(II)V" } : Jvm.MethodName)) ∈ ky_B := ky_mem (kc_2 _ (List.mem_of_getElem? kB_2_100.1.1)) kB_2_100.1.2
theorem kw_2_101 : (Jvm.Cond.static ({ cls := "java/util/Arrays", name := "checkLength", desc := "(II)V" } : Jvm.MethodName)) ∈ ky_B := ky_mem (kc_2 _ (List.mem_of_getElem? kB_2_100.2.1.1)) kB_2_100.2.1.2
theorem kw_1_196 : (Jvm.Cond.sameMethod "[B" "java/lang/Object" "clone" "()Ljava/lang/Object;") ∈ ky_B := ky_mem (kc_1 _ (List.mem_of_getElem? kB_2_100.2.2.1.1)) kB_2_100.2.2.1.2
theorem kw_1_197 : (Jvm.Cond.native ({ cls := "java/lang/Object", name := "clone", desc := "()Ljava/lang/Object;" } : Jvm.MethodName)) ∈ ky_B := ky_mem (kc_1 _ (List.mem_of_getElem? kB_2_100.2.2.2.1.1)) kB_2_100.2.2.2.1.2
theorem kw_1_198 : (Jvm.Cond.instanceMethod ({ cls := "java/lang/Object", name := "clone", desc := "()Ljava/lang/Object;" } : Jvm.MethodName)) ∈ ky_B := ky_mem (kc_1 _ (List.mem_of_getElem? kB_2_100.2.2.2.2.1.1)) kB_2_100.2.2.2.2.1.2
theorem kw_1_199 : (Jvm.Cond.selects "[B" ({ cls := "[B", name := "clone", desc := "()Ljava/lang/Object;" } : Jvm.MethodName) ({ cls := "java/lang/Object", name := "clone", desc := "()Ljava/lang/Object;" } : Jvm.MethodName)) ∈ ky_B := ky_mem (kc_1 _ (List.mem_of_getElem? kB_2_100.2.2.2.2.2.1.1)) kB_2_100.2.2.2.2.2.1.2
theorem kw_1_195 : (Jvm.Cond.methodLink "java/util/Arrays" (310 : Nat) ({ cls := "[B", name := "clone", desc := "()Ljava/lang/Object;" } : Jvm.MethodName)) ∈ ky_B := ky_mem (kc_1 _ (List.mem_of_getElem? kB_2_100.2.2.2.2.2.2.1.1)) kB_2_100.2.2.2.2.2.2.1.2
theorem kw_1_201 : (Jvm.Cond.classLink "java/util/Arrays" (311 : Nat) "[B") ∈ ky_B := ky_mem (kc_1 _ (List.mem_of_getElem? kB_2_100.2.2.2.2.2.2.2.1.1)) kB_2_100.2.2.2.2.2.2.2.1.2
theorem kw_2_97 : (Jvm.Cond.methodLink "java/util/Arrays" (339 : Nat) ({ cls := "java/util/Arrays", name := "copyOfRangeByte", desc := "([BII)[B" } : Jvm.MethodName)) ∈ ky_B := ky_mem (kc_2 _ (List.mem_of_getElem? kB_2_100.2.2.2.2.2.2.2.2.1.1)) kB_2_100.2.2.2.2.2.2.2.2.1.2
theorem kw_2_98 : (Jvm.Cond.static ({ cls := "java/util/Arrays", name := "copyOfRangeByte", desc := "([BII)[B" } : Jvm.MethodName)) ∈ ky_B := ky_mem (kc_2 _ (List.mem_of_getElem? kB_2_100.2.2.2.2.2.2.2.2.2.1)) kB_2_100.2.2.2.2.2.2.2.2.2.2
theorem kw_2_99 : (Jvm.Cond.code ({ cls := "java/util/Arrays", name := "copyOfRangeByte", desc := "([BII)[B" } : Jvm.MethodName) prog_29_method_133_code (5 : Nat) (Option.some (Jvm.ClassFile.FieldType.array Jvm.ClassFile.FieldType.byte))) ∈ ky_B := ky_mem (kc_2 _ (List.mem_of_getElem? (i := 99) rfl)) (by decide +kernel)
theorem kw_2_84 : (Jvm.Cond.code ({ cls := "java/lang/AbstractStringBuilder", name := "getValue", desc := "()[B" } : Jvm.MethodName) prog_12_method_64_code (1 : Nat) (Option.some (Jvm.ClassFile.FieldType.array Jvm.ClassFile.FieldType.byte))) ∈ ky_B := ky_mem (kc_2 _ (List.mem_of_getElem? (i := 84) rfl)) (by decide +kernel)
theorem kw_2_90 : (Jvm.Cond.code ({ cls := "java/lang/StringBuilder", name := "length", desc := "()I" } : Jvm.MethodName) prog_23_method_93_code (1 : Nat) (Option.some Jvm.ClassFile.FieldType.int)) ∈ ky_B := ky_mem (kc_2 _ (List.mem_of_getElem? (i := 90) rfl)) (by decide +kernel)
theorem kB_2_79 : (tables_1_2[(79 : Nat)]? = some (Jvm.Cond.methodLink "java/lang/String" (1 : Nat) ({ cls := "java/lang/Object", name := "<init>", desc := "()V" } : Jvm.MethodName)) ∧ goodWord (Jvm.Cond.methodLink "java/lang/String" (1 : Nat) ({ cls := "java/lang/Object", name := "<init>", desc := "()V" } : Jvm.MethodName)) = true) ∧ (tables_1_2[(82 : Nat)]? = some (Jvm.Cond.sameMethod "java/lang/AbstractStringBuilder" "java/lang/AbstractStringBuilder" "getValue" "()[B") ∧ goodWord (Jvm.Cond.sameMethod "java/lang/AbstractStringBuilder" "java/lang/AbstractStringBuilder" "getValue" "()[B") = true) ∧ (tables_1_2[(83 : Nat)]? = some (Jvm.Cond.selects "java/lang/StringBuilder" ({ cls := "java/lang/AbstractStringBuilder", name := "getValue", desc := "()[B" } : Jvm.MethodName) ({ cls := "java/lang/AbstractStringBuilder", name := "getValue", desc := "()[B" } : Jvm.MethodName)) ∧ goodWord (Jvm.Cond.selects "java/lang/StringBuilder" ({ cls := "java/lang/AbstractStringBuilder", name := "getValue", desc := "()[B" } : Jvm.MethodName) ({ cls := "java/lang/AbstractStringBuilder", name := "getValue", desc := "()[B" } : Jvm.MethodName)) = true) ∧ (tables_1_2[(80 : Nat)]? = some (Jvm.Cond.methodLink "java/lang/String" (552 : Nat) ({ cls := "java/lang/AbstractStringBuilder", name := "getValue", desc := "()[B" } : Jvm.MethodName)) ∧ goodWord (Jvm.Cond.methodLink "java/lang/String" (552 : Nat) ({ cls := "java/lang/AbstractStringBuilder", name := "getValue", desc := "()[B" } : Jvm.MethodName)) = true) ∧ (tables_1_2[(81 : Nat)]? = some (Jvm.Cond.instanceMethod ({ cls := "java/lang/AbstractStringBuilder", name := "getValue", desc := "()[B" } : Jvm.MethodName)) ∧ goodWord (Jvm.Cond.instanceMethod ({ cls := "java/lang/AbstractStringBuilder", name := "getValue", desc := "()[B" } : Jvm.MethodName)) = true) ∧ (tables_1_2[(88 : Nat)]? = some (Jvm.Cond.selects "java/lang/StringBuilder" ({ cls := "java/lang/AbstractStringBuilder", name := "length", desc := "()I" } : Jvm.MethodName) ({ cls := "java/lang/StringBuilder", name := "length", desc := "()I" } : Jvm.MethodName)) ∧ goodWord (Jvm.Cond.selects "java/lang/StringBuilder" ({ cls := "java/lang/AbstractStringBuilder", name := "length", desc := "()I" } : Jvm.MethodName) ({ cls := "java/lang/StringBuilder", name := "length", desc := "()I" } : Jvm.MethodName)) = true) ∧ (tables_1_2[(85 : Nat)]? = some (Jvm.Cond.methodLink "java/lang/String" (549 : Nat) ({ cls := "java/lang/AbstractStringBuilder", name := "length", desc := "()I" } : Jvm.MethodName)) ∧ goodWord (Jvm.Cond.methodLink "java/lang/String" (549 : Nat) ({ cls := "java/lang/AbstractStringBuilder", name := "length", desc := "()I" } : Jvm.MethodName)) = true) ∧ (tables_1_2[(89 : Nat)]? = some (Jvm.Cond.instanceMethod ({ cls := "java/lang/StringBuilder", name := "length", desc := "()I" } : Jvm.MethodName)) ∧ goodWord (Jvm.Cond.instanceMethod ({ cls := "java/lang/StringBuilder", name := "length", desc := "()I" } : Jvm.MethodName)) = true) ∧ (tables_1_1[(4 : Nat)]? = some (Jvm.Cond.initialized "java/lang/StringBuilder") ∧ goodWord (Jvm.Cond.initialized "java/lang/StringBuilder") = true) ∧ (tables_1_2[(93 : Nat)]? = some (Jvm.Cond.methodLink "java/lang/String" (1047 : Nat) ({ cls := "java/lang/AbstractStringBuilder", name := "isLatin1", desc := "()Z" } : Jvm.MethodName)) ∧ goodWord (Jvm.Cond.methodLink "java/lang/String" (1047 : Nat) ({ cls := "java/lang/AbstractStringBuilder", name := "isLatin1", desc := "()Z" } : Jvm.MethodName)) = true) := by decide +kernel
theorem kw_2_79 : (Jvm.Cond.methodLink "java/lang/String" (1 : Nat) ({ cls := "java/lang/Object", name := "<init>", desc := "()V" } : Jvm.MethodName)) ∈ ky_B := ky_mem (kc_2 _ (List.mem_of_getElem? kB_2_79.1.1)) kB_2_79.1.2
theorem kw_2_82 : (Jvm.Cond.sameMethod "java/lang/AbstractStringBuilder" "java/lang/AbstractStringBuilder" "getValue" "()[B") ∈ ky_B := ky_mem (kc_2 _ (List.mem_of_getElem? kB_2_79.2.1.1)) kB_2_79.2.1.2
theorem kw_2_83 : (Jvm.Cond.selects "java/lang/StringBuilder" ({ cls := "java/lang/AbstractStringBuilder", name := "getValue", desc := "()[B" } : Jvm.MethodName) ({ cls := "java/lang/AbstractStringBuilder", name := "getValue", desc := "()[B" } : Jvm.MethodName)) ∈ ky_B := ky_mem (kc_2 _ (List.mem_of_getElem? kB_2_79.2.2.1.1)) kB_2_79.2.2.1.2
theorem kw_2_80 : (Jvm.Cond.methodLink "java/lang/String" (552 : Nat) ({ cls := "java/lang/AbstractStringBuilder", name := "getValue", desc := "()[B" } : Jvm.MethodName)) ∈ ky_B := ky_mem (kc_2 _ (List.mem_of_getElem? kB_2_79.2.2.2.1.1)) kB_2_79.2.2.2.1.2
theorem kw_2_81 : (Jvm.Cond.instanceMethod ({ cls := "java/lang/AbstractStringBuilder", name := "getValue", desc := "()[B" } : Jvm.MethodName)) ∈ ky_B := ky_mem (kc_2 _ (List.mem_of_getElem? kB_2_79.2.2.2.2.1.1)) kB_2_79.2.2.2.2.1.2
theorem kw_2_88 : (Jvm.Cond.selects "java/lang/StringBuilder" ({ cls := "java/lang/AbstractStringBuilder", name := "length", desc := "()I" } : Jvm.MethodName) ({ cls := "java/lang/StringBuilder", name := "length", desc := "()I" } : Jvm.MethodName)) ∈ ky_B := ky_mem (kc_2 _ (List.mem_of_getElem? kB_2_79.2.2.2.2.2.1.1)) kB_2_79.2.2.2.2.2.1.2
theorem kw_2_85 : (Jvm.Cond.methodLink "java/lang/String" (549 : Nat) ({ cls := "java/lang/AbstractStringBuilder", name := "length", desc := "()I" } : Jvm.MethodName)) ∈ ky_B := ky_mem (kc_2 _ (List.mem_of_getElem? kB_2_79.2.2.2.2.2.2.1.1)) kB_2_79.2.2.2.2.2.2.1.2
theorem kw_2_89 : (Jvm.Cond.instanceMethod ({ cls := "java/lang/StringBuilder", name := "length", desc := "()I" } : Jvm.MethodName)) ∈ ky_B := ky_mem (kc_2 _ (List.mem_of_getElem? kB_2_79.2.2.2.2.2.2.2.1.1)) kB_2_79.2.2.2.2.2.2.2.1.2
theorem kw_1_4 : (Jvm.Cond.initialized "java/lang/StringBuilder") ∈ ky_B := ky_mem (kc_1 _ (List.mem_of_getElem? kB_2_79.2.2.2.2.2.2.2.2.1.1)) kB_2_79.2.2.2.2.2.2.2.2.1.2
theorem kw_2_93 : (Jvm.Cond.methodLink "java/lang/String" (1047 : Nat) ({ cls := "java/lang/AbstractStringBuilder", name := "isLatin1", desc := "()Z" } : Jvm.MethodName)) ∈ ky_B := ky_mem (kc_2 _ (List.mem_of_getElem? kB_2_79.2.2.2.2.2.2.2.2.2.1)) kB_2_79.2.2.2.2.2.2.2.2.2.2
theorem kw_2_96 : (Jvm.Cond.code ({ cls := "java/util/Arrays", name := "copyOfRange", desc := "([BII)[B" } : Jvm.MethodName) prog_29_method_132_code (3 : Nat) (Option.some (Jvm.ClassFile.FieldType.array Jvm.ClassFile.FieldType.byte))) ∈ ky_B := ky_mem (kc_2 _ (List.mem_of_getElem? (i := 96) rfl)) (by decide +kernel)
theorem kw_2_78 : (Jvm.Cond.code ({ cls := "java/lang/String", name := "<init>", desc := "(Ljava/lang/AbstractStringBuilder;Ljava/lang/Void;)V" } : Jvm.MethodName) prog_22_method_150_code (5 : Nat) (Option.none : Option Jvm.ClassFile.FieldType)) ∈ ky_B := ky_mem (kc_2 _ (List.mem_of_getElem? (i := 78) rfl)) (by decide +kernel)
theorem kw_2_75 : (Jvm.Cond.code ({ cls := "java/lang/String", name := "<init>", desc := "(Ljava/lang/StringBuilder;)V" } : Jvm.MethodName) prog_22_method_53_code (2 : Nat) (Option.none : Option Jvm.ClassFile.FieldType)) ∈ ky_B := ky_mem (kc_2 _ (List.mem_of_getElem? (i := 75) rfl)) (by decide +kernel)
theorem kB_2_94 : (tables_1_2[(94 : Nat)]? = some (Jvm.Cond.methodLink "java/lang/String" (54 : Nat) ({ cls := "java/util/Arrays", name := "copyOfRange", desc := "([BII)[B" } : Jvm.MethodName)) ∧ goodWord (Jvm.Cond.methodLink "java/lang/String" (54 : Nat) ({ cls := "java/util/Arrays", name := "copyOfRange", desc := "([BII)[B" } : Jvm.MethodName)) = true) ∧ (tables_1_2[(95 : Nat)]? = some (Jvm.Cond.static ({ cls := "java/util/Arrays", name := "copyOfRange", desc := "([BII)[B" } : Jvm.MethodName)) ∧ goodWord (Jvm.Cond.static ({ cls := "java/util/Arrays", name := "copyOfRange", desc := "([BII)[B" } : Jvm.MethodName)) = true) ∧ (tables_1_2[(76 : Nat)]? = some (Jvm.Cond.methodLink "java/lang/String" (489 : Nat) ({ cls := "java/lang/String", name := "<init>", desc := "(Ljava/lang/AbstractStringBuilder;Ljava/lang/Void;)V" } : Jvm.MethodName)) ∧ goodWord (Jvm.Cond.methodLink "java/lang/String" (489 : Nat) ({ cls := "java/lang/String", name := "<init>", desc := "(Ljava/lang/AbstractStringBuilder;Ljava/lang/Void;)V" } : Jvm.MethodName)) = true) ∧ (tables_1_2[(77 : Nat)]? = some (Jvm.Cond.instanceMethod ({ cls := "java/lang/String", name := "<init>", desc := "(Ljava/lang/AbstractStringBuilder;Ljava/lang/Void;)V" } : Jvm.MethodName)) ∧ goodWord (Jvm.Cond.instanceMethod ({ cls := "java/lang/String", name := "<init>", desc := "(Ljava/lang/AbstractStringBuilder;Ljava/lang/Void;)V" } : Jvm.MethodName)) = true) ∧ (tables_1_2[(72 : Nat)]? = some (Jvm.Cond.instantiable "java/lang/String" (4 : Nat)) ∧ goodWord (Jvm.Cond.instantiable "java/lang/String" (4 : Nat)) = true) ∧ (tables_1_2[(71 : Nat)]? = some (Jvm.Cond.classLink "java/lang/StringBuilder" (18 : Nat) "java/lang/String") ∧ goodWord (Jvm.Cond.classLink "java/lang/StringBuilder" (18 : Nat) "java/lang/String") = true) ∧ (tables_1_2[(73 : Nat)]? = some (Jvm.Cond.methodLink "java/lang/StringBuilder" (137 : Nat) ({ cls := "java/lang/String", name := "<init>", desc := "(Ljava/lang/StringBuilder;)V" } : Jvm.MethodName)) ∧ goodWord (Jvm.Cond.methodLink "java/lang/StringBuilder" (137 : Nat) ({ cls := "java/lang/String", name := "<init>", desc := "(Ljava/lang/StringBuilder;)V" } : Jvm.MethodName)) = true) ∧ (tables_1_2[(74 : Nat)]? = some (Jvm.Cond.instanceMethod ({ cls := "java/lang/String", name := "<init>", desc := "(Ljava/lang/StringBuilder;)V" } : Jvm.MethodName)) ∧ goodWord (Jvm.Cond.instanceMethod ({ cls := "java/lang/String", name := "<init>", desc := "(Ljava/lang/StringBuilder;)V" } : Jvm.MethodName)) = true) := by decide +kernel
theorem kw_2_94 : (Jvm.Cond.methodLink "java/lang/String" (54 : Nat) ({ cls := "java/util/Arrays", name := "copyOfRange", desc := "([BII)[B" } : Jvm.MethodName)) ∈ ky_B := ky_mem (kc_2 _ (List.mem_of_getElem? kB_2_94.1.1)) kB_2_94.1.2
theorem kw_2_95 : (Jvm.Cond.static ({ cls := "java/util/Arrays", name := "copyOfRange", desc := "([BII)[B" } : Jvm.MethodName)) ∈ ky_B := ky_mem (kc_2 _ (List.mem_of_getElem? kB_2_94.2.1.1)) kB_2_94.2.1.2
theorem kw_2_76 : (Jvm.Cond.methodLink "java/lang/String" (489 : Nat) ({ cls := "java/lang/String", name := "<init>", desc := "(Ljava/lang/AbstractStringBuilder;Ljava/lang/Void;)V" } : Jvm.MethodName)) ∈ ky_B := ky_mem (kc_2 _ (List.mem_of_getElem? kB_2_94.2.2.1.1)) kB_2_94.2.2.1.2
theorem kw_2_77 : (Jvm.Cond.instanceMethod ({ cls := "java/lang/String", name := "<init>", desc := "(Ljava/lang/AbstractStringBuilder;Ljava/lang/Void;)V" } : Jvm.MethodName)) ∈ ky_B := ky_mem (kc_2 _ (List.mem_of_getElem? kB_2_94.2.2.2.1.1)) kB_2_94.2.2.2.1.2
theorem kw_2_72 : (Jvm.Cond.instantiable "java/lang/String" (4 : Nat)) ∈ ky_B := ky_mem (kc_2 _ (List.mem_of_getElem? kB_2_94.2.2.2.2.1.1)) kB_2_94.2.2.2.2.1.2
theorem kw_2_71 : (Jvm.Cond.classLink "java/lang/StringBuilder" (18 : Nat) "java/lang/String") ∈ ky_B := ky_mem (kc_2 _ (List.mem_of_getElem? kB_2_94.2.2.2.2.2.1.1)) kB_2_94.2.2.2.2.2.1.2
theorem kw_2_73 : (Jvm.Cond.methodLink "java/lang/StringBuilder" (137 : Nat) ({ cls := "java/lang/String", name := "<init>", desc := "(Ljava/lang/StringBuilder;)V" } : Jvm.MethodName)) ∈ ky_B := ky_mem (kc_2 _ (List.mem_of_getElem? kB_2_94.2.2.2.2.2.2.1.1)) kB_2_94.2.2.2.2.2.2.1.2
theorem kw_2_74 : (Jvm.Cond.instanceMethod ({ cls := "java/lang/String", name := "<init>", desc := "(Ljava/lang/StringBuilder;)V" } : Jvm.MethodName)) ∈ ky_B := ky_mem (kc_2 _ (List.mem_of_getElem? kB_2_94.2.2.2.2.2.2.2.1)) kB_2_94.2.2.2.2.2.2.2.2
theorem pd_42 : (parseMethodDescriptor "([BII)[B").map (fun d => d.parameters.length) = some 3 := by decide +kernel
theorem pd_43 : (parseMethodDescriptor "(Ljava/lang/AbstractStringBuilder;Ljava/lang/Void;)V").map (fun d => d.parameters.length) = some 2 := by decide +kernel
theorem pd_44 : (parseMethodDescriptor "(Ljava/lang/StringBuilder;)V").map (fun d => d.parameters.length) = some 1 := by decide +kernel
theorem ks_J7_343 : ky_wS "java/util/Arrays" 343 my_J7_checkLength_df160 prog_29_method_131_code 2 (Option.none : Option Jvm.ClassFile.FieldType) 2 := ⟨kw_2_100, kw_2_101, kw_1_22, kw_2_102, by decide +kernel, by decide +kernel, pd_12⟩
theorem ks_J7_339 : ky_wS "java/util/Arrays" 339 my_J7_copyOfRangeByte_39247 prog_29_method_133_code 5 (Option.some (Jvm.ClassFile.FieldType.array Jvm.ClassFile.FieldType.byte)) 3 := ⟨kw_2_97, kw_2_98, kw_1_22, kw_2_99, by decide +kernel, by decide +kernel, pd_42⟩
theorem ku_J0_552 : ky_wO "java/lang/String" 552 "java/lang/StringBuilder" my_J5_getValue_6d5f1 my_J5_getValue_6d5f1 prog_12_method_64_code 1 (Option.some (Jvm.ClassFile.FieldType.array Jvm.ClassFile.FieldType.byte)) prog_12_method_64_code 1 (Option.some (Jvm.ClassFile.FieldType.array Jvm.ClassFile.FieldType.byte)) 0 := ⟨kw_2_80, kw_2_82, kw_2_81, kw_2_84, kw_2_83, kw_2_81, kw_1_3, kw_2_84, by decide +kernel, by decide +kernel⟩
theorem ku_J0_549 : ky_wO "java/lang/String" 549 "java/lang/StringBuilder" my_J5_length_8abf5 my_J4_length_8abf5 prog_12_method_6_code 1 (Option.some Jvm.ClassFile.FieldType.int) prog_23_method_93_code 1 (Option.some Jvm.ClassFile.FieldType.int) 0 := ⟨kw_2_85, kw_2_87, kw_2_86, kw_2_92, kw_2_88, kw_2_89, kw_1_4, kw_2_90, by decide +kernel, by decide +kernel⟩
theorem ku_J0_1047 : ky_wO "java/lang/String" 1047 "java/lang/StringBuilder" my_J5_isLatin1_aae02 my_J5_isLatin1_aae02 prog_12_method_68_code 1 (Option.some Jvm.ClassFile.FieldType.boolean) prog_12_method_68_code 1 (Option.some Jvm.ClassFile.FieldType.boolean) 0 := ⟨kw_2_93, kw_1_210, kw_1_209, kw_1_212, kw_1_211, kw_1_209, kw_1_3, kw_1_212, by decide +kernel, by decide +kernel⟩
theorem ks_J0_54 : ky_wS "java/lang/String" 54 my_J7_copyOfRange_39247 prog_29_method_132_code 3 (Option.some (Jvm.ClassFile.FieldType.array Jvm.ClassFile.FieldType.byte)) 3 := ⟨kw_2_94, kw_2_95, kw_1_22, kw_2_96, by decide +kernel, by decide +kernel, pd_42⟩
theorem kI_J0_489 : ky_wI "java/lang/String" 489 my_J0_init_db425 prog_22_method_150_code 5 2 := ⟨kw_2_76, kw_2_77, kw_1_5, kw_2_78, rfl, by decide +kernel, by decide +kernel, pd_43⟩
theorem kI_J4_137 : ky_wI "java/lang/StringBuilder" 137 my_J0_init_81219 prog_22_method_53_code 2 1 := ⟨kw_2_73, kw_2_74, kw_1_5, kw_2_75, rfl, by decide +kernel, by decide +kernel, pd_44⟩
def dw_C_prog_29_method_131_code_0 : List UInt8 := [27, 26, 162, 0, 35, 187, 0, 43, 89, 187, 0, 45, 89, 183, 0, 47, 26, 182, 0, 54, 19, 1, 81, 182, 0, 50, 27, 182, 0, 54, 182, 0, 61, 183, 0, 65, 191, 177]
theorem dw_h_prog_29_method_131_code_0 : (prog_29_method_131_code.data.toList.drop 0).take 72 = dw_C_prog_29_method_131_code_0 := by decide +kernel
theorem dw_b_J7_checkLength_df160_0 : dw_chk dw_C_prog_29_method_131_code_0 0 0 (.iload_n 1) 1 = true ∧ dw_chk dw_C_prog_29_method_131_code_0 1 1 (.iload_n 0) 1 = true ∧ dw_chk dw_C_prog_29_method_131_code_0 2 2 (.if_icmp .ge 35) 3 = true ∧ dw_chk dw_C_prog_29_method_131_code_0 37 37 (.return_) 1 = true := by decide +kernel
theorem dc_J7_checkLength_df160_0 : decode prog_29_method_131_code 0 = .ok (.iload_n 1, 1) := dw_row (j := 0) dw_h_prog_29_method_131_code_0 rfl dw_b_J7_checkLength_df160_0.1
theorem dc_J7_checkLength_df160_1 : decode prog_29_method_131_code 1 = .ok (.iload_n 0, 1) := dw_row (j := 1) dw_h_prog_29_method_131_code_0 rfl dw_b_J7_checkLength_df160_0.2.1
theorem dc_J7_checkLength_df160_2 : decode prog_29_method_131_code 2 = .ok (.if_icmp .ge 35, 3) := dw_row (j := 2) dw_h_prog_29_method_131_code_0 rfl dw_b_J7_checkLength_df160_0.2.2.1
theorem dc_J7_checkLength_df160_37 : decode prog_29_method_131_code 37 = .ok (.return_, 1) := dw_row (j := 37) dw_h_prog_29_method_131_code_0 rfl dw_b_J7_checkLength_df160_0.2.2.2
theorem dc_J7_copyOfRangeByte_39247_10 : decode prog_29_method_133_code 10 = .ok (.newarray .byte, 2) := by decide +kernel
def dw_C_prog_29_method_133_code_0 : List UInt8 := [27, 28, 184, 1, 87, 28, 27, 100, 62, 29, 188, 8, 58, 4, 42, 27, 25, 4, 3, 42, 190, 27, 100, 29, 184, 1, 48, 184, 0, 150, 25, 4, 176]
theorem dw_h_prog_29_method_133_code_0 : (prog_29_method_133_code.data.toList.drop 0).take 72 = dw_C_prog_29_method_133_code_0 := by decide +kernel
theorem dw_b_J7_copyOfRangeByte_39247_0 : dw_chk dw_C_prog_29_method_133_code_0 0 0 (.iload_n 1) 1 = true ∧ dw_chk dw_C_prog_29_method_133_code_0 1 1 (.iload_n 2) 1 = true ∧ dw_chk dw_C_prog_29_method_133_code_0 2 2 (.invokestatic 343) 3 = true ∧ dw_chk dw_C_prog_29_method_133_code_0 5 5 (.iload_n 2) 1 = true ∧ dw_chk dw_C_prog_29_method_133_code_0 6 6 (.iload_n 1) 1 = true ∧ dw_chk dw_C_prog_29_method_133_code_0 7 7 (.isub) 1 = true ∧ dw_chk dw_C_prog_29_method_133_code_0 8 8 (.istore_n 3) 1 = true ∧ dw_chk dw_C_prog_29_method_133_code_0 9 9 (.iload_n 3) 1 = true ∧ dw_chk dw_C_prog_29_method_133_code_0 12 12 (.astore 4) 2 = true ∧ dw_chk dw_C_prog_29_method_133_code_0 14 14 (.aload_n 0) 1 = true ∧ dw_chk dw_C_prog_29_method_133_code_0 15 15 (.iload_n 1) 1 = true ∧ dw_chk dw_C_prog_29_method_133_code_0 16 16 (.aload 4) 2 = true ∧ dw_chk dw_C_prog_29_method_133_code_0 18 18 (.iconst 0) 1 = true ∧ dw_chk dw_C_prog_29_method_133_code_0 19 19 (.aload_n 0) 1 = true ∧ dw_chk dw_C_prog_29_method_133_code_0 20 20 (.arraylength) 1 = true ∧ dw_chk dw_C_prog_29_method_133_code_0 21 21 (.iload_n 1) 1 = true ∧ dw_chk dw_C_prog_29_method_133_code_0 22 22 (.isub) 1 = true ∧ dw_chk dw_C_prog_29_method_133_code_0 23 23 (.iload_n 3) 1 = true ∧ dw_chk dw_C_prog_29_method_133_code_0 24 24 (.invokestatic 304) 3 = true ∧ dw_chk dw_C_prog_29_method_133_code_0 27 27 (.invokestatic 150) 3 = true ∧ dw_chk dw_C_prog_29_method_133_code_0 30 30 (.aload 4) 2 = true ∧ dw_chk dw_C_prog_29_method_133_code_0 32 32 (.areturn) 1 = true := by decide +kernel
theorem dc_J7_copyOfRangeByte_39247_0 : decode prog_29_method_133_code 0 = .ok (.iload_n 1, 1) := dw_row (j := 0) dw_h_prog_29_method_133_code_0 rfl dw_b_J7_copyOfRangeByte_39247_0.1
theorem dc_J7_copyOfRangeByte_39247_1 : decode prog_29_method_133_code 1 = .ok (.iload_n 2, 1) := dw_row (j := 1) dw_h_prog_29_method_133_code_0 rfl dw_b_J7_copyOfRangeByte_39247_0.2.1
theorem dc_J7_copyOfRangeByte_39247_2 : decode prog_29_method_133_code 2 = .ok (.invokestatic 343, 3) := dw_row (j := 2) dw_h_prog_29_method_133_code_0 rfl dw_b_J7_copyOfRangeByte_39247_0.2.2.1
theorem dc_J7_copyOfRangeByte_39247_5 : decode prog_29_method_133_code 5 = .ok (.iload_n 2, 1) := dw_row (j := 5) dw_h_prog_29_method_133_code_0 rfl dw_b_J7_copyOfRangeByte_39247_0.2.2.2.1
theorem dc_J7_copyOfRangeByte_39247_6 : decode prog_29_method_133_code 6 = .ok (.iload_n 1, 1) := dw_row (j := 6) dw_h_prog_29_method_133_code_0 rfl dw_b_J7_copyOfRangeByte_39247_0.2.2.2.2.1
theorem dc_J7_copyOfRangeByte_39247_7 : decode prog_29_method_133_code 7 = .ok (.isub, 1) := dw_row (j := 7) dw_h_prog_29_method_133_code_0 rfl dw_b_J7_copyOfRangeByte_39247_0.2.2.2.2.2.1
theorem dc_J7_copyOfRangeByte_39247_8 : decode prog_29_method_133_code 8 = .ok (.istore_n 3, 1) := dw_row (j := 8) dw_h_prog_29_method_133_code_0 rfl dw_b_J7_copyOfRangeByte_39247_0.2.2.2.2.2.2.1
theorem dc_J7_copyOfRangeByte_39247_9 : decode prog_29_method_133_code 9 = .ok (.iload_n 3, 1) := dw_row (j := 9) dw_h_prog_29_method_133_code_0 rfl dw_b_J7_copyOfRangeByte_39247_0.2.2.2.2.2.2.2.1
theorem dc_J7_copyOfRangeByte_39247_12 : decode prog_29_method_133_code 12 = .ok (.astore 4, 2) := dw_row (j := 12) dw_h_prog_29_method_133_code_0 rfl dw_b_J7_copyOfRangeByte_39247_0.2.2.2.2.2.2.2.2.1
theorem dc_J7_copyOfRangeByte_39247_14 : decode prog_29_method_133_code 14 = .ok (.aload_n 0, 1) := dw_row (j := 14) dw_h_prog_29_method_133_code_0 rfl dw_b_J7_copyOfRangeByte_39247_0.2.2.2.2.2.2.2.2.2.1
theorem dc_J7_copyOfRangeByte_39247_15 : decode prog_29_method_133_code 15 = .ok (.iload_n 1, 1) := dw_row (j := 15) dw_h_prog_29_method_133_code_0 rfl dw_b_J7_copyOfRangeByte_39247_0.2.2.2.2.2.2.2.2.2.2.1
theorem dc_J7_copyOfRangeByte_39247_16 : decode prog_29_method_133_code 16 = .ok (.aload 4, 2) := dw_row (j := 16) dw_h_prog_29_method_133_code_0 rfl dw_b_J7_copyOfRangeByte_39247_0.2.2.2.2.2.2.2.2.2.2.2.1
theorem dc_J7_copyOfRangeByte_39247_18 : decode prog_29_method_133_code 18 = .ok (.iconst 0, 1) := dw_row (j := 18) dw_h_prog_29_method_133_code_0 rfl dw_b_J7_copyOfRangeByte_39247_0.2.2.2.2.2.2.2.2.2.2.2.2.1
theorem dc_J7_copyOfRangeByte_39247_19 : decode prog_29_method_133_code 19 = .ok (.aload_n 0, 1) := dw_row (j := 19) dw_h_prog_29_method_133_code_0 rfl dw_b_J7_copyOfRangeByte_39247_0.2.2.2.2.2.2.2.2.2.2.2.2.2.1
theorem dc_J7_copyOfRangeByte_39247_20 : decode prog_29_method_133_code 20 = .ok (.arraylength, 1) := dw_row (j := 20) dw_h_prog_29_method_133_code_0 rfl dw_b_J7_copyOfRangeByte_39247_0.2.2.2.2.2.2.2.2.2.2.2.2.2.2.1
theorem dc_J7_copyOfRangeByte_39247_21 : decode prog_29_method_133_code 21 = .ok (.iload_n 1, 1) := dw_row (j := 21) dw_h_prog_29_method_133_code_0 rfl dw_b_J7_copyOfRangeByte_39247_0.2.2.2.2.2.2.2.2.2.2.2.2.2.2.2.1
theorem dc_J7_copyOfRangeByte_39247_22 : decode prog_29_method_133_code 22 = .ok (.isub, 1) := dw_row (j := 22) dw_h_prog_29_method_133_code_0 rfl dw_b_J7_copyOfRangeByte_39247_0.2.2.2.2.2.2.2.2.2.2.2.2.2.2.2.2.1
theorem dc_J7_copyOfRangeByte_39247_23 : decode prog_29_method_133_code 23 = .ok (.iload_n 3, 1) := dw_row (j := 23) dw_h_prog_29_method_133_code_0 rfl dw_b_J7_copyOfRangeByte_39247_0.2.2.2.2.2.2.2.2.2.2.2.2.2.2.2.2.2.1
theorem dc_J7_copyOfRangeByte_39247_24 : decode prog_29_method_133_code 24 = .ok (.invokestatic 304, 3) := dw_row (j := 24) dw_h_prog_29_method_133_code_0 rfl dw_b_J7_copyOfRangeByte_39247_0.2.2.2.2.2.2.2.2.2.2.2.2.2.2.2.2.2.2.1
theorem dc_J7_copyOfRangeByte_39247_27 : decode prog_29_method_133_code 27 = .ok (.invokestatic 150, 3) := dw_row (j := 27) dw_h_prog_29_method_133_code_0 rfl dw_b_J7_copyOfRangeByte_39247_0.2.2.2.2.2.2.2.2.2.2.2.2.2.2.2.2.2.2.2.1
theorem dc_J7_copyOfRangeByte_39247_30 : decode prog_29_method_133_code 30 = .ok (.aload 4, 2) := dw_row (j := 30) dw_h_prog_29_method_133_code_0 rfl dw_b_J7_copyOfRangeByte_39247_0.2.2.2.2.2.2.2.2.2.2.2.2.2.2.2.2.2.2.2.2.1
theorem dc_J7_copyOfRangeByte_39247_32 : decode prog_29_method_133_code 32 = .ok (.areturn, 1) := dw_row (j := 32) dw_h_prog_29_method_133_code_0 rfl dw_b_J7_copyOfRangeByte_39247_0.2.2.2.2.2.2.2.2.2.2.2.2.2.2.2.2.2.2.2.2.2
def dw_C_prog_29_method_132_code_0 : List UInt8 := [27, 154, 0, 9, 28, 42, 190, 159, 0, 10, 42, 27, 28, 184, 1, 83, 176, 42, 182, 1, 54, 192, 1, 55, 176]
theorem dw_h_prog_29_method_132_code_0 : (prog_29_method_132_code.data.toList.drop 0).take 72 = dw_C_prog_29_method_132_code_0 := by decide +kernel
theorem dw_b_J7_copyOfRange_39247_0 : dw_chk dw_C_prog_29_method_132_code_0 0 0 (.iload_n 1) 1 = true ∧ dw_chk dw_C_prog_29_method_132_code_0 1 1 (.ifCond .ne 9) 3 = true ∧ dw_chk dw_C_prog_29_method_132_code_0 4 4 (.iload_n 2) 1 = true ∧ dw_chk dw_C_prog_29_method_132_code_0 5 5 (.aload_n 0) 1 = true ∧ dw_chk dw_C_prog_29_method_132_code_0 6 6 (.arraylength) 1 = true ∧ dw_chk dw_C_prog_29_method_132_code_0 7 7 (.if_icmp .eq 10) 3 = true ∧ dw_chk dw_C_prog_29_method_132_code_0 17 17 (.aload_n 0) 1 = true ∧ dw_chk dw_C_prog_29_method_132_code_0 18 18 (.invokevirtual 310) 3 = true ∧ dw_chk dw_C_prog_29_method_132_code_0 21 21 (.checkcast 311) 3 = true ∧ dw_chk dw_C_prog_29_method_132_code_0 24 24 (.areturn) 1 = true ∧ dw_chk dw_C_prog_29_method_132_code_0 10 10 (.aload_n 0) 1 = true ∧ dw_chk dw_C_prog_29_method_132_code_0 11 11 (.iload_n 1) 1 = true ∧ dw_chk dw_C_prog_29_method_132_code_0 12 12 (.iload_n 2) 1 = true ∧ dw_chk dw_C_prog_29_method_132_code_0 13 13 (.invokestatic 339) 3 = true ∧ dw_chk dw_C_prog_29_method_132_code_0 16 16 (.areturn) 1 = true := by decide +kernel
theorem dc_J7_copyOfRange_39247_0 : decode prog_29_method_132_code 0 = .ok (.iload_n 1, 1) := dw_row (j := 0) dw_h_prog_29_method_132_code_0 rfl dw_b_J7_copyOfRange_39247_0.1
theorem dc_J7_copyOfRange_39247_1 : decode prog_29_method_132_code 1 = .ok (.ifCond .ne 9, 3) := dw_row (j := 1) dw_h_prog_29_method_132_code_0 rfl dw_b_J7_copyOfRange_39247_0.2.1
theorem dc_J7_copyOfRange_39247_4 : decode prog_29_method_132_code 4 = .ok (.iload_n 2, 1) := dw_row (j := 4) dw_h_prog_29_method_132_code_0 rfl dw_b_J7_copyOfRange_39247_0.2.2.1
theorem dc_J7_copyOfRange_39247_5 : decode prog_29_method_132_code 5 = .ok (.aload_n 0, 1) := dw_row (j := 5) dw_h_prog_29_method_132_code_0 rfl dw_b_J7_copyOfRange_39247_0.2.2.2.1
theorem dc_J7_copyOfRange_39247_6 : decode prog_29_method_132_code 6 = .ok (.arraylength, 1) := dw_row (j := 6) dw_h_prog_29_method_132_code_0 rfl dw_b_J7_copyOfRange_39247_0.2.2.2.2.1
theorem dc_J7_copyOfRange_39247_7 : decode prog_29_method_132_code 7 = .ok (.if_icmp .eq 10, 3) := dw_row (j := 7) dw_h_prog_29_method_132_code_0 rfl dw_b_J7_copyOfRange_39247_0.2.2.2.2.2.1
theorem dc_J7_copyOfRange_39247_17 : decode prog_29_method_132_code 17 = .ok (.aload_n 0, 1) := dw_row (j := 17) dw_h_prog_29_method_132_code_0 rfl dw_b_J7_copyOfRange_39247_0.2.2.2.2.2.2.1
theorem dc_J7_copyOfRange_39247_18 : decode prog_29_method_132_code 18 = .ok (.invokevirtual 310, 3) := dw_row (j := 18) dw_h_prog_29_method_132_code_0 rfl dw_b_J7_copyOfRange_39247_0.2.2.2.2.2.2.2.1
theorem dc_J7_copyOfRange_39247_21 : decode prog_29_method_132_code 21 = .ok (.checkcast 311, 3) := dw_row (j := 21) dw_h_prog_29_method_132_code_0 rfl dw_b_J7_copyOfRange_39247_0.2.2.2.2.2.2.2.2.1
theorem dc_J7_copyOfRange_39247_24 : decode prog_29_method_132_code 24 = .ok (.areturn, 1) := dw_row (j := 24) dw_h_prog_29_method_132_code_0 rfl dw_b_J7_copyOfRange_39247_0.2.2.2.2.2.2.2.2.2.1
theorem dc_J7_copyOfRange_39247_10 : decode prog_29_method_132_code 10 = .ok (.aload_n 0, 1) := dw_row (j := 10) dw_h_prog_29_method_132_code_0 rfl dw_b_J7_copyOfRange_39247_0.2.2.2.2.2.2.2.2.2.2.1
theorem dc_J7_copyOfRange_39247_11 : decode prog_29_method_132_code 11 = .ok (.iload_n 1, 1) := dw_row (j := 11) dw_h_prog_29_method_132_code_0 rfl dw_b_J7_copyOfRange_39247_0.2.2.2.2.2.2.2.2.2.2.2.1
theorem dc_J7_copyOfRange_39247_12 : decode prog_29_method_132_code 12 = .ok (.iload_n 2, 1) := dw_row (j := 12) dw_h_prog_29_method_132_code_0 rfl dw_b_J7_copyOfRange_39247_0.2.2.2.2.2.2.2.2.2.2.2.2.1
theorem dc_J7_copyOfRange_39247_13 : decode prog_29_method_132_code 13 = .ok (.invokestatic 339, 3) := dw_row (j := 13) dw_h_prog_29_method_132_code_0 rfl dw_b_J7_copyOfRange_39247_0.2.2.2.2.2.2.2.2.2.2.2.2.2.1
theorem dc_J7_copyOfRange_39247_16 : decode prog_29_method_132_code 16 = .ok (.areturn, 1) := dw_row (j := 16) dw_h_prog_29_method_132_code_0 rfl dw_b_J7_copyOfRange_39247_0.2.2.2.2.2.2.2.2.2.2.2.2.2.2
def dw_C_prog_22_method_150_code_0 : List UInt8 := [42, 183, 0, 1, 43, 182, 2, 40, 78, 43, 182, 2, 37, 54, 4, 43, 182, 4, 23, 153, 0, 22, 42, 3, 181, 0, 15, 42, 45, 3, 21, 4, 184, 0, 54, 181, 0, 9, 167, 0, 59, 178, 0, 38, 153, 0, 35, 43, 180, 4, 24, 153, 0, 28, 42, 45, 3, 21, 4, 184, 4, 27, 181, 0, 9, 42, 42, 180, 0, 9, 21, 4]
theorem dw_h_prog_22_method_150_code_0 : (prog_22_method_150_code.data.toList.drop 0).take 72 = dw_C_prog_22_method_150_code_0 := by decide +kernel
theorem dw_b_J0_init_db425_0 : dw_chk dw_C_prog_22_method_150_code_0 0 0 (.aload_n 0) 1 = true ∧ dw_chk dw_C_prog_22_method_150_code_0 1 1 (.invokespecial 1) 3 = true ∧ dw_chk dw_C_prog_22_method_150_code_0 4 4 (.aload_n 1) 1 = true ∧ dw_chk dw_C_prog_22_method_150_code_0 5 5 (.invokevirtual 552) 3 = true ∧ dw_chk dw_C_prog_22_method_150_code_0 8 8 (.astore_n 3) 1 = true ∧ dw_chk dw_C_prog_22_method_150_code_0 9 9 (.aload_n 1) 1 = true ∧ dw_chk dw_C_prog_22_method_150_code_0 10 10 (.invokevirtual 549) 3 = true ∧ dw_chk dw_C_prog_22_method_150_code_0 13 13 (.istore 4) 2 = true ∧ dw_chk dw_C_prog_22_method_150_code_0 15 15 (.aload_n 1) 1 = true ∧ dw_chk dw_C_prog_22_method_150_code_0 16 16 (.invokevirtual 1047) 3 = true ∧ dw_chk dw_C_prog_22_method_150_code_0 19 19 (.ifCond .eq 22) 3 = true ∧ dw_chk dw_C_prog_22_method_150_code_0 22 22 (.aload_n 0) 1 = true ∧ dw_chk dw_C_prog_22_method_150_code_0 23 23 (.iconst 0) 1 = true ∧ dw_chk dw_C_prog_22_method_150_code_0 24 24 (.putfield 15) 3 = true ∧ dw_chk dw_C_prog_22_method_150_code_0 27 27 (.aload_n 0) 1 = true ∧ dw_chk dw_C_prog_22_method_150_code_0 28 28 (.aload_n 3) 1 = true ∧ dw_chk dw_C_prog_22_method_150_code_0 29 29 (.iconst 0) 1 = true ∧ dw_chk dw_C_prog_22_method_150_code_0 30 30 (.iload 4) 2 = true ∧ dw_chk dw_C_prog_22_method_150_code_0 32 32 (.invokestatic 54) 3 = true ∧ dw_chk dw_C_prog_22_method_150_code_0 35 35 (.putfield 9) 3 = true ∧ dw_chk dw_C_prog_22_method_150_code_0 38 38 (.goto 59) 3 = true := by decide +kernel
theorem dc_J0_init_db425_0 : decode prog_22_method_150_code 0 = .ok (.aload_n 0, 1) := dw_row (j := 0) dw_h_prog_22_method_150_code_0 rfl dw_b_J0_init_db425_0.1
theorem dc_J0_init_db425_1 : decode prog_22_method_150_code 1 = .ok (.invokespecial 1, 3) := dw_row (j := 1) dw_h_prog_22_method_150_code_0 rfl dw_b_J0_init_db425_0.2.1
theorem dc_J0_init_db425_4 : decode prog_22_method_150_code 4 = .ok (.aload_n 1, 1) := dw_row (j := 4) dw_h_prog_22_method_150_code_0 rfl dw_b_J0_init_db425_0.2.2.1
theorem dc_J0_init_db425_5 : decode prog_22_method_150_code 5 = .ok (.invokevirtual 552, 3) := dw_row (j := 5) dw_h_prog_22_method_150_code_0 rfl dw_b_J0_init_db425_0.2.2.2.1
theorem dc_J0_init_db425_8 : decode prog_22_method_150_code 8 = .ok (.astore_n 3, 1) := dw_row (j := 8) dw_h_prog_22_method_150_code_0 rfl dw_b_J0_init_db425_0.2.2.2.2.1
theorem dc_J0_init_db425_9 : decode prog_22_method_150_code 9 = .ok (.aload_n 1, 1) := dw_row (j := 9) dw_h_prog_22_method_150_code_0 rfl dw_b_J0_init_db425_0.2.2.2.2.2.1
theorem dc_J0_init_db425_10 : decode prog_22_method_150_code 10 = .ok (.invokevirtual 549, 3) := dw_row (j := 10) dw_h_prog_22_method_150_code_0 rfl dw_b_J0_init_db425_0.2.2.2.2.2.2.1
theorem dc_J0_init_db425_13 : decode prog_22_method_150_code 13 = .ok (.istore 4, 2) := dw_row (j := 13) dw_h_prog_22_method_150_code_0 rfl dw_b_J0_init_db425_0.2.2.2.2.2.2.2.1
theorem dc_J0_init_db425_15 : decode prog_22_method_150_code 15 = .ok (.aload_n 1, 1) := dw_row (j := 15) dw_h_prog_22_method_150_code_0 rfl dw_b_J0_init_db425_0.2.2.2.2.2.2.2.2.1
theorem dc_J0_init_db425_16 : decode prog_22_method_150_code 16 = .ok (.invokevirtual 1047, 3) := dw_row (j := 16) dw_h_prog_22_method_150_code_0 rfl dw_b_J0_init_db425_0.2.2.2.2.2.2.2.2.2.1
theorem dc_J0_init_db425_19 : decode prog_22_method_150_code 19 = .ok (.ifCond .eq 22, 3) := dw_row (j := 19) dw_h_prog_22_method_150_code_0 rfl dw_b_J0_init_db425_0.2.2.2.2.2.2.2.2.2.2.1
theorem dc_J0_init_db425_22 : decode prog_22_method_150_code 22 = .ok (.aload_n 0, 1) := dw_row (j := 22) dw_h_prog_22_method_150_code_0 rfl dw_b_J0_init_db425_0.2.2.2.2.2.2.2.2.2.2.2.1
theorem dc_J0_init_db425_23 : decode prog_22_method_150_code 23 = .ok (.iconst 0, 1) := dw_row (j := 23) dw_h_prog_22_method_150_code_0 rfl dw_b_J0_init_db425_0.2.2.2.2.2.2.2.2.2.2.2.2.1
theorem dc_J0_init_db425_24 : decode prog_22_method_150_code 24 = .ok (.putfield 15, 3) := dw_row (j := 24) dw_h_prog_22_method_150_code_0 rfl dw_b_J0_init_db425_0.2.2.2.2.2.2.2.2.2.2.2.2.2.1
theorem dc_J0_init_db425_27 : decode prog_22_method_150_code 27 = .ok (.aload_n 0, 1) := dw_row (j := 27) dw_h_prog_22_method_150_code_0 rfl dw_b_J0_init_db425_0.2.2.2.2.2.2.2.2.2.2.2.2.2.2.1
theorem dc_J0_init_db425_28 : decode prog_22_method_150_code 28 = .ok (.aload_n 3, 1) := dw_row (j := 28) dw_h_prog_22_method_150_code_0 rfl dw_b_J0_init_db425_0.2.2.2.2.2.2.2.2.2.2.2.2.2.2.2.1
theorem dc_J0_init_db425_29 : decode prog_22_method_150_code 29 = .ok (.iconst 0, 1) := dw_row (j := 29) dw_h_prog_22_method_150_code_0 rfl dw_b_J0_init_db425_0.2.2.2.2.2.2.2.2.2.2.2.2.2.2.2.2.1
theorem dc_J0_init_db425_30 : decode prog_22_method_150_code 30 = .ok (.iload 4, 2) := dw_row (j := 30) dw_h_prog_22_method_150_code_0 rfl dw_b_J0_init_db425_0.2.2.2.2.2.2.2.2.2.2.2.2.2.2.2.2.2.1
theorem dc_J0_init_db425_32 : decode prog_22_method_150_code 32 = .ok (.invokestatic 54, 3) := dw_row (j := 32) dw_h_prog_22_method_150_code_0 rfl dw_b_J0_init_db425_0.2.2.2.2.2.2.2.2.2.2.2.2.2.2.2.2.2.2.1
theorem dc_J0_init_db425_35 : decode prog_22_method_150_code 35 = .ok (.putfield 9, 3) := dw_row (j := 35) dw_h_prog_22_method_150_code_0 rfl dw_b_J0_init_db425_0.2.2.2.2.2.2.2.2.2.2.2.2.2.2.2.2.2.2.2.1
theorem dc_J0_init_db425_38 : decode prog_22_method_150_code 38 = .ok (.goto 59, 3) := dw_row (j := 38) dw_h_prog_22_method_150_code_0 rfl dw_b_J0_init_db425_0.2.2.2.2.2.2.2.2.2.2.2.2.2.2.2.2.2.2.2.2
theorem dc_J0_init_db425_97 : decode prog_22_method_150_code 97 = .ok (.return_, 1) := by decide +kernel
def dw_C_prog_22_method_53_code_0 : List UInt8 := [42, 43, 1, 183, 1, 233, 177]
theorem dw_h_prog_22_method_53_code_0 : (prog_22_method_53_code.data.toList.drop 0).take 72 = dw_C_prog_22_method_53_code_0 := by decide +kernel
theorem dw_b_J0_init_81219_0 : dw_chk dw_C_prog_22_method_53_code_0 0 0 (.aload_n 0) 1 = true ∧ dw_chk dw_C_prog_22_method_53_code_0 1 1 (.aload_n 1) 1 = true ∧ dw_chk dw_C_prog_22_method_53_code_0 2 2 (.aconst_null) 1 = true ∧ dw_chk dw_C_prog_22_method_53_code_0 3 3 (.invokespecial 489) 3 = true ∧ dw_chk dw_C_prog_22_method_53_code_0 6 6 (.return_) 1 = true := by decide +kernel
theorem dc_J0_init_81219_0 : decode prog_22_method_53_code 0 = .ok (.aload_n 0, 1) := dw_row (j := 0) dw_h_prog_22_method_53_code_0 rfl dw_b_J0_init_81219_0.1
theorem dc_J0_init_81219_1 : decode prog_22_method_53_code 1 = .ok (.aload_n 1, 1) := dw_row (j := 1) dw_h_prog_22_method_53_code_0 rfl dw_b_J0_init_81219_0.2.1
theorem dc_J0_init_81219_2 : decode prog_22_method_53_code 2 = .ok (.aconst_null, 1) := dw_row (j := 2) dw_h_prog_22_method_53_code_0 rfl dw_b_J0_init_81219_0.2.2.1
theorem dc_J0_init_81219_3 : decode prog_22_method_53_code 3 = .ok (.invokespecial 489, 3) := dw_row (j := 3) dw_h_prog_22_method_53_code_0 rfl dw_b_J0_init_81219_0.2.2.2.1
theorem dc_J0_init_81219_6 : decode prog_22_method_53_code 6 = .ok (.return_, 1) := dw_row (j := 6) dw_h_prog_22_method_53_code_0 rfl dw_b_J0_init_81219_0.2.2.2.2
def dw_C_prog_23_method_42_code_0 : List UInt8 := [187, 0, 18, 89, 42, 183, 0, 137, 176]
theorem dw_h_prog_23_method_42_code_0 : (prog_23_method_42_code.data.toList.drop 0).take 72 = dw_C_prog_23_method_42_code_0 := by decide +kernel
theorem dw_b_J4_toString_0e30d_0 : dw_chk dw_C_prog_23_method_42_code_0 0 0 (.new 18) 3 = true ∧ dw_chk dw_C_prog_23_method_42_code_0 3 3 (.dup) 1 = true ∧ dw_chk dw_C_prog_23_method_42_code_0 4 4 (.aload_n 0) 1 = true ∧ dw_chk dw_C_prog_23_method_42_code_0 5 5 (.invokespecial 137) 3 = true ∧ dw_chk dw_C_prog_23_method_42_code_0 8 8 (.areturn) 1 = true := by decide +kernel
theorem dc_J4_toString_0e30d_0 : decode prog_23_method_42_code 0 = .ok (.new 18, 3) := dw_row (j := 0) dw_h_prog_23_method_42_code_0 rfl dw_b_J4_toString_0e30d_0.1
theorem dc_J4_toString_0e30d_3 : decode prog_23_method_42_code 3 = .ok (.dup, 1) := dw_row (j := 3) dw_h_prog_23_method_42_code_0 rfl dw_b_J4_toString_0e30d_0.2.1
theorem dc_J4_toString_0e30d_4 : decode prog_23_method_42_code 4 = .ok (.aload_n 0, 1) := dw_row (j := 4) dw_h_prog_23_method_42_code_0 rfl dw_b_J4_toString_0e30d_0.2.2.1
theorem dc_J4_toString_0e30d_5 : decode prog_23_method_42_code 5 = .ok (.invokespecial 137, 3) := dw_row (j := 5) dw_h_prog_23_method_42_code_0 rfl dw_b_J4_toString_0e30d_0.2.2.2.1
theorem dc_J4_toString_0e30d_8 : decode prog_23_method_42_code 8 = .ok (.areturn, 1) := dw_row (j := 8) dw_h_prog_23_method_42_code_0 rfl dw_b_J4_toString_0e30d_0.2.2.2.2
end
section
set_option linter.constructorNameAsVariable false in
set_option maxHeartbeats 4000000 in
set_option maxRecDepth 100000 in
theorem mt_J7_checkLength_df160 (l : Launch) (G : ky_G) (n : Nat) (sz : Nat) (hn : n < 2 ^ 20) : Met l my_J7_checkLength_df160 (.code my_J7_checkLength_df160 prog_29_method_131_code 2 none :: ky_B) { frames := 0, cells := 0, slots := 0, locals := 0 } (ky_P G [.int ((0 : Int32)), .int (nI (n))] ([]) sz (fun _ => True)) (ky_Q (S := Unit) G (va_A ([]) sz) (fun v _ => v = none) (fun _ => []) (fun _ _ => True)) (0) (0) (va_A ([]) sz) := by
  refine ky_start (by decide) (Nat.le_of_ble_eq_true rfl) (fun p e s m below meth c F hE A hAe hsz hA hfr hP hD hS hX ls hl => ?_)
  obtain ⟨hx, hb, hml, hown, hr, hlocks, hts⟩ := id F
  have hl : lv_has ls 2 [(0, .int ((0 : Int32))), (1, .int (nI (n)))] := hl
  have hP : va_P G.1 kcl [] s.heap := hP
  have hD : va_D A [] := hD
  refine lv_iload_n hx hb dc_J7_checkLength_df160_0 rfl (lv_at hl 1 rfl) ?_
  refine lv_iload_n hx hb dc_J7_checkLength_df160_1 rfl (lv_at hl 0 rfl) ?_
  refine lv_icmp_ge (tgt := 37) hx hb dc_J7_checkLength_df160_2 (by decide) (fun _ => ?_) (fun c_0 => absurd (nI_pos' (by omega)) c_0)
  have hP9 := hP.sub (ws' := []) [] rfl
  have hD9 := hD.sub (ws' := []) [] (by decide) rfl
  refine W.widen (k := 0) (n := 0) (Nat.le_of_ble_eq_true rfl) (Nat.le_of_ble_eq_true rfl) ?_
  exact W.vret hx hb hr (fun t ht hW => ⟨⟨_, (), rfl, rfl, by rw [ht]; exact hP9, hD9, trivial⟩, hS.F ht⟩) hS.2.2 dc_J7_checkLength_df160_37
set_option linter.constructorNameAsVariable false in
set_option maxHeartbeats 4000000 in
set_option maxRecDepth 100000 in
theorem mt_J7_copyOfRangeByte_39247 (l : Launch) (G : ky_G) (a : Nat) (mm : Nat) (n : Nat) (f : Nat → Int32) (sz : Nat) (hn : n ≤ mm) (hmm : mm ≤ 34) (hf : ky_fit f) : Met l my_J7_copyOfRangeByte_39247 (.code my_J7_copyOfRangeByte_39247 prog_29_method_133_code 5 (Option.some (Jvm.ClassFile.FieldType.array Jvm.ClassFile.FieldType.byte)) :: ky_B) { frames := 1, cells := 1, slots := 34, locals := 40 } (ky_P G [.ref a, .int ((0 : Int32)), .int (nI (n))] ([(a, .inl (G.2.1 0, mm, .inl f))]) sz (fun _ => True)) (ky_Q (S := Nat × (Nat → Int32)) G (va_A ([(a, .inl (G.2.1 0, mm, .inl f))]) sz) (fun v u => v = some (.ref u.1) ∧ ky_fit u.2) (fun u => [(a, .inl (G.2.1 0, mm, .inl f)), (u.1, .inl (G.2.1 0, n, .inl u.2))]) (fun _ _ => True)) (1) (34) (va_A ([(a, .inl (G.2.1 0, mm, .inl f))]) sz) := by
  refine ky_start (by decide) (Nat.le_of_ble_eq_true rfl) (fun p e s m below meth c F hE A hAe hsz hA hfr hP hD hS hX ls hl => ?_)
  obtain ⟨hx, hb, hml, hown, hr, hlocks, hts⟩ := id F
  have hl : lv_has ls 5 [(0, .ref a), (1, .int ((0 : Int32))), (2, .int (nI (n)))] := hl
  have hP : va_P G.1 kcl [(a, .inl (G.2.1 0, mm, .inl (f)))] s.heap := hP
  have hD : va_D A [(a, .inl (G.2.1 0, mm, .inl (f)))] := hD
  refine lv_iload_n hx hb dc_J7_copyOfRangeByte_39247_0 rfl (lv_at hl 1 rfl) ?_
  refine lv_iload_n hx hb dc_J7_copyOfRangeByte_39247_1 rfl (lv_at hl 2 rfl) ?_
  refine ky_cSh (As := [.int ((0 : Int32)), .int (nI (n))]) (wr := [(a, .inl (G.2.1 0, mm, .inl (f)))]) F (hE.at hfr hS) hfr (mt_J7_checkLength_df160 l G n s.heap.size (by omega)) ks_J7_343 ⟨⟨rfl, rfl⟩, Nat.le_of_ble_eq_true rfl, Nat.le_of_ble_eq_true rfl⟩ rfl hl.1 rfl (Nat.le_of_ble_eq_true rfl) ⟨by show (_ : Nat) ≤ 1; omega, by show (_ : Nat) ≤ 34; omega⟩ trivial hP hD hS hA [] [0] rfl rfl (by decide) (by decide) (by decide) dc_J7_copyOfRangeByte_39247_2 ?_
  rintro v9 u9 H locs rfl hP hD hS - hz hk9
  have hP : va_P G.1 kcl [(a, .inl (G.2.1 0, mm, .inl (f)))] H := hP
  have hD : va_D A [(a, .inl (G.2.1 0, mm, .inl (f)))] := hD
  refine W.widen (k := 0) (n := 0) (by first | exact Nat.le_refl _ | omega) (by first | exact Nat.le_refl _ | omega) ?_
  refine lv_iload_n hx hb dc_J7_copyOfRangeByte_39247_5 rfl (lv_at hl 2 rfl) ?_
  refine lv_iload_n hx hb dc_J7_copyOfRangeByte_39247_6 rfl (lv_at hl 1 rfl) ?_
  refine lv_isub hx hb dc_J7_copyOfRangeByte_39247_7 ?_
  rw [show (((nI (n)) - ((0 : Int32))) : Int32) = nI (n) from by simp]
  refine lv_istore_n (lv' := [(3, .int (nI (n))), (0, .ref a), (1, .int ((0 : Int32))), (2, .int (nI (n)))]) hx hb dc_J7_copyOfRangeByte_39247_8 rfl hl (by decide) rfl (fun ls hl => ?_)
  refine lv_iload_n hx hb dc_J7_copyOfRangeByte_39247_9 rfl (lv_at hl 0 rfl) ?_
  refine va_newa (atype := .byte) (ty := .byte) (N' := n) (a0 := (n, .inl (fun _ => 0))) hx hb (hts _ kw_1_77) rfl hE.1 hP hD hS hA (fun _ => rfl) (nI_pos (by omega)) (nI_clamp (by omega)) (by show n * 1 ≤ _; omega) (by show (_ : Nat) ≤ 1; omega) (by show (_ : Nat) ≤ 34; omega) dc_J7_copyOfRangeByte_39247_10 (fun q_1 cA_1 H hK_1 hP hD hS => ?_)
  have hc_1 : cA_1 = G.2.1 0 := ky_nB 0 hE.1 hK_1 rfl (fun _ h => by cases h)
  subst hc_1
  have hP : va_P G.1 kcl [(a, .inl (G.2.1 0, mm, .inl (f))), (q_1, .inl (G.2.1 0, n, .inl (fun _ => 0)))] H := hP
  have hD : va_D A [(a, .inl (G.2.1 0, mm, .inl (f))), (q_1, .inl (G.2.1 0, n, .inl (fun _ => 0)))] := hD
  refine W.widen (k := 1) (n := n) (by first | exact Nat.le_refl _ | omega) (by first | exact Nat.le_refl _ | omega) ?_
  refine lv_astore (lv' := [(4, .ref q_1), (3, .int (nI (n))), (0, .ref a), (1, .int ((0 : Int32))), (2, .int (nI (n)))]) hx hb dc_J7_copyOfRangeByte_39247_12 hl (by decide) rfl (fun ls hl => ?_)
  refine lv_aload_n hx hb dc_J7_copyOfRangeByte_39247_14 rfl (lv_at hl 2 rfl) ?_
  refine lv_iload_n hx hb dc_J7_copyOfRangeByte_39247_15 rfl (lv_at hl 3 rfl) ?_
  refine lv_aload hx hb dc_J7_copyOfRangeByte_39247_16 (lv_at hl 0 rfl) ?_
  refine lv_iconst (v := 0) hx hb dc_J7_copyOfRangeByte_39247_18 (by decide) ?_
  refine lv_aload_n hx hb dc_J7_copyOfRangeByte_39247_19 rfl (lv_at hl 2 rfl) ?_
  refine va_alen hx hb hE.1 hP 0 0 rfl rfl (v := Int32.ofNat (mm)) rfl dc_J7_copyOfRangeByte_39247_20 ?_
  refine lv_iload_n hx hb dc_J7_copyOfRangeByte_39247_21 rfl (lv_at hl 3 rfl) ?_
  refine lv_isub hx hb dc_J7_copyOfRangeByte_39247_22 ?_
  refine lv_iload_n hx hb dc_J7_copyOfRangeByte_39247_23 rfl (lv_at hl 1 rfl) ?_
  refine ky_imin F ⟨kw_1_202, kw_1_203, kw_1_16, kw_1_204⟩ hl.1 (Nat.le_of_ble_eq_true rfl) (Nat.le_of_ble_eq_true rfl) ⟨by show (_ : Nat) ≤ 1; omega, by show (_ : Nat) ≤ 34; omega⟩ dc_J7_copyOfRangeByte_39247_24 ?_
  rw [show ((jimin ((Int32.ofNat (mm)) - ((0 : Int32))) (nI (n))) : Int32) = nI (n) from ky_mn hn (by omega)]
  refine va_copyi hx hb (hml.trans hl.1.symm) hown (hts _ kw_1_205) (hts _ kw_1_207) (hts _ kw_1_206) (hts _ kw_1_23) hE.1 hP hD hS 0 1 0 0 rfl rfl rfl rfl rfl (by decide) (by decide) (nI_pos (by omega)) (ky_cl0 n mm (by omega) hn) (ky_cl0 n n (by omega) (Nat.le_refl _)) (fun i _ => hf _) (Nat.le_of_ble_eq_true rfl) (Nat.le_of_ble_eq_true rfl) dc_J7_copyOfRangeByte_39247_27 (fun H locs hP hD hS => ?_)
  have hP : va_P G.1 kcl [(a, .inl (G.2.1 0, mm, .inl (f))), (q_1, .inl (G.2.1 0, n, .inl (va_cpy (f) (fun _ => 0) ((0 : Int32)).toNatClampNeg ((0 : Int32)).toNatClampNeg (nI (n)).toNatClampNeg)))] H := hP
  have hD : va_D A [(a, .inl (G.2.1 0, mm, .inl (f))), (q_1, .inl (G.2.1 0, n, .inl (va_cpy (f) (fun _ => 0) ((0 : Int32)).toNatClampNeg ((0 : Int32)).toNatClampNeg (nI (n)).toNatClampNeg)))] := hD
  refine lv_aload hx hb dc_J7_copyOfRangeByte_39247_30 (lv_at hl 0 rfl) ?_
  have hP9 := hP.sub (ws' := [(a, .inl (G.2.1 0, mm, .inl (f))), (q_1, .inl (G.2.1 0, n, .inl (va_cpy (f) (fun _ => 0) ((0 : Int32)).toNatClampNeg ((0 : Int32)).toNatClampNeg (nI (n)).toNatClampNeg)))]) [0, 1] rfl
  have hD9 := hD.sub (ws' := [(a, .inl (G.2.1 0, mm, .inl (f))), (q_1, .inl (G.2.1 0, n, .inl (va_cpy (f) (fun _ => 0) ((0 : Int32)).toNatClampNeg ((0 : Int32)).toNatClampNeg (nI (n)).toNatClampNeg)))]) [0, 1] (by decide) rfl
  refine W.widen (k := 1) (n := 34) (by omega) (by omega) ?_
  exact W.aret (v := .ref q_1) hx hb hr (Or.inr ⟨_, rfl⟩) (Or.inr ⟨_, rfl⟩) (fun t ht hW => ⟨⟨_, (q_1, va_cpy (f) (fun _ => 0) ((0 : Int32)).toNatClampNeg ((0 : Int32)).toNatClampNeg (nI (n)).toNatClampNeg), rfl, ⟨rfl, (ky_fitC hf ky_fit0 _ _ _)⟩, by rw [ht]; exact hP9, hD9, trivial⟩, hS.F ht⟩) hS.2.2 dc_J7_copyOfRangeByte_39247_32
set_option linter.constructorNameAsVariable false in
set_option maxHeartbeats 4000000 in
set_option maxRecDepth 100000 in
theorem mt_J7_copyOfRange_39247 (l : Launch) (G : ky_G) (a : Nat) (mm : Nat) (n : Nat) (f : Nat → Int32) (sz : Nat) (hn : n ≤ mm) (hmm : mm ≤ 34) (hf : ky_fit f) : Met l my_J7_copyOfRange_39247 (.code my_J7_copyOfRange_39247 prog_29_method_132_code 3 (Option.some (Jvm.ClassFile.FieldType.array Jvm.ClassFile.FieldType.byte)) :: ky_B) { frames := 2, cells := 1, slots := 34, locals := 64 } (ky_P G [.ref a, .int ((0 : Int32)), .int (nI (n))] ([(a, .inl (G.2.1 0, mm, .inl f))]) sz (fun _ => True)) (ky_Q (S := Nat × (Nat → Int32)) G (va_A ([(a, .inl (G.2.1 0, mm, .inl f))]) sz) (fun v u => v = some (.ref u.1) ∧ ky_fit u.2) (fun u => [(a, .inl (G.2.1 0, mm, .inl f)), (u.1, .inl (G.2.1 0, n, .inl u.2))]) (fun _ _ => True)) (1) (34) (va_A ([(a, .inl (G.2.1 0, mm, .inl f))]) sz) := by
  refine ky_start (by decide) (Nat.le_of_ble_eq_true rfl) (fun p e s m below meth c F hE A hAe hsz hA hfr hP hD hS hX ls hl => ?_)
  obtain ⟨hx, hb, hml, hown, hr, hlocks, hts⟩ := id F
  have hl : lv_has ls 3 [(0, .ref a), (1, .int ((0 : Int32))), (2, .int (nI (n)))] := hl
  have hP : va_P G.1 kcl [(a, .inl (G.2.1 0, mm, .inl (f)))] s.heap := hP
  have hD : va_D A [(a, .inl (G.2.1 0, mm, .inl (f)))] := hD
  refine lv_iload_n hx hb dc_J7_copyOfRange_39247_0 rfl (lv_at hl 1 rfl) ?_
  refine lv_if_ne (tgt := 10) hx hb dc_J7_copyOfRange_39247_1 (by decide) (fun c_0 => absurd c_0 (by decide)) (fun _ => ?_)
  refine lv_iload_n hx hb dc_J7_copyOfRange_39247_4 rfl (lv_at hl 2 rfl) ?_
  refine lv_aload_n hx hb dc_J7_copyOfRange_39247_5 rfl (lv_at hl 0 rfl) ?_
  refine va_alen hx hb hE.1 hP 0 0 rfl rfl (v := Int32.ofNat (mm)) rfl dc_J7_copyOfRange_39247_6 ?_
  refine lv_icmp_eq (tgt := 17) hx hb dc_J7_copyOfRange_39247_7 (by decide) (fun c_1 => ?_) (fun c_1 => ?_)
  · skip
    have en : n = mm := by have := (nI_eq (by omega) (by omega)).mp c_1; exact this
    refine lv_aload_n hx hb dc_J7_copyOfRange_39247_17 rfl (lv_at hl 0 rfl) ?_
    refine va_clone (ad := "[B") (x := (mm, .inl (f))) hx hb (hml.trans hl.1.symm) hown (hts _ kw_1_195) (hts _ kw_1_196) (hts _ kw_1_197) (hts _ kw_1_198) (hts _ kw_1_199) (hE.castN (kc_1 _ (List.mem_of_getElem? (i := 200) rfl))) hE.1 hP hD hS hA 0 0 rfl rfl (ky_nmB hE) (ky_fitA hf) (Nat.le_of_ble_eq_true rfl) (Nat.le_of_ble_eq_true rfl) (by show (_ : Nat) ≤ 1; omega) (by show (_ : Nat) ≤ 34; omega) dc_J7_copyOfRange_39247_18 (fun q_2 H hK_2 hP hD hS => ?_)
    have hP : va_P G.1 kcl [(a, .inl (G.2.1 0, mm, .inl (f))), (q_2, .inl (G.2.1 0, mm, .inl (f)))] H := hP
    have hD : va_D A [(a, .inl (G.2.1 0, mm, .inl (f))), (q_2, .inl (G.2.1 0, mm, .inl (f)))] := hD
    refine W.widen (k := 1) (n := mm) (by first | exact Nat.le_refl _ | omega) (by first | exact Nat.le_refl _ | omega) ?_
    refine va_castA (nm := "[B") hx hb hown (hts _ kw_1_201) hP 1 rfl (ky_nmB hE) dc_J7_copyOfRange_39247_21 ?_
    rw [show ([(a, .inl (G.2.1 0, mm, .inl (f))), (q_2, .inl (G.2.1 0, mm, .inl (f)))] : va_W) = [(a, .inl (G.2.1 0, mm, .inl (f))), (q_2, .inl (G.2.1 0, n, .inl (f)))] by rw [en]] at hP hD
    have hP9 := hP.sub (ws' := [(a, .inl (G.2.1 0, mm, .inl (f))), (q_2, .inl (G.2.1 0, n, .inl (f)))]) [0, 1] rfl
    have hD9 := hD.sub (ws' := [(a, .inl (G.2.1 0, mm, .inl (f))), (q_2, .inl (G.2.1 0, n, .inl (f)))]) [0, 1] (by decide) rfl
    refine W.widen (k := 1) (n := 34) (by omega) (by omega) ?_
    exact W.aret (v := .ref q_2) hx hb hr (Or.inr ⟨_, rfl⟩) (Or.inr ⟨_, rfl⟩) (fun t ht hW => ⟨⟨_, (q_2, f), rfl, ⟨rfl, hf⟩, by rw [ht]; exact hP9, hD9, trivial⟩, hS.F ht⟩) hS.2.2 dc_J7_copyOfRange_39247_24
  · skip
    refine lv_aload_n hx hb dc_J7_copyOfRange_39247_10 rfl (lv_at hl 0 rfl) ?_
    refine lv_iload_n hx hb dc_J7_copyOfRange_39247_11 rfl (lv_at hl 1 rfl) ?_
    refine lv_iload_n hx hb dc_J7_copyOfRange_39247_12 rfl (lv_at hl 2 rfl) ?_
    refine ky_cSh (As := [.ref a, .int ((0 : Int32)), .int (nI (n))]) (wr := []) F (hE.at hfr hS) hfr (mt_J7_copyOfRangeByte_39247 l G a mm n f s.heap.size hn hmm hf) ks_J7_339 ⟨⟨rfl, rfl⟩, Nat.le_of_ble_eq_true rfl, Nat.le_of_ble_eq_true rfl⟩ rfl hl.1 rfl (Nat.le_of_ble_eq_true rfl) ⟨by show (_ : Nat) ≤ 1; omega, by show (_ : Nat) ≤ 34; omega⟩ trivial hP hD hS hA [0] [] rfl rfl (by decide) (by decide) (by decide) dc_J7_copyOfRange_39247_13 ?_
    rintro v9 ⟨y_2, g_2⟩ H locs ⟨rfl, hg_2⟩ hP hD hS - hz hk9
    have hP : va_P G.1 kcl [(a, .inl (G.2.1 0, mm, .inl (f))), (y_2, .inl (G.2.1 0, n, .inl (g_2)))] H := hP
    have hD : va_D A [(a, .inl (G.2.1 0, mm, .inl (f))), (y_2, .inl (G.2.1 0, n, .inl (g_2)))] := hD
    refine W.widen (k := 1) (n := 34) (by first | exact Nat.le_refl _ | omega) (by first | exact Nat.le_refl _ | omega) ?_
    have hP9 := hP.sub (ws' := [(a, .inl (G.2.1 0, mm, .inl (f))), (y_2, .inl (G.2.1 0, n, .inl (g_2)))]) [0, 1] rfl
    have hD9 := hD.sub (ws' := [(a, .inl (G.2.1 0, mm, .inl (f))), (y_2, .inl (G.2.1 0, n, .inl (g_2)))]) [0, 1] (by decide) rfl
    refine W.widen (k := 1) (n := 34) (by omega) (by omega) ?_
    exact W.aret (v := .ref y_2) hx hb hr (Or.inr ⟨_, rfl⟩) (Or.inr ⟨_, rfl⟩) (fun t ht hW => ⟨⟨_, (y_2, g_2), rfl, ⟨rfl, hg_2⟩, by rw [ht]; exact hP9, hD9, trivial⟩, hS.F ht⟩) hS.2.2 dc_J7_copyOfRange_39247_16
set_option linter.constructorNameAsVariable false in
set_option maxHeartbeats 4000000 in
set_option maxRecDepth 100000 in
theorem mt_J0_init_db425 (l : Launch) (G : ky_G) (z : Nat) (b : Nat) (va : Nat) (mm : Nat) (n : Nat) (f : Nat → Int32) (ml : Int32) (sz : Nat) (hn : n ≤ mm) (hmm : mm ≤ 34) (hf : ky_fit f) : Met l my_J0_init_db425 (.code my_J0_init_db425 prog_22_method_150_code 5 none :: ky_B) { frames := 3, cells := 1, slots := 34, locals := 86 } (ky_P G [.ref z, .ref b, .null] ((z, .inr (7, [.null, .int 0, .int 0, .int 0])) :: ky_WT G b va mm n f ml) sz (fun _ => True)) (ky_Q (S := Nat × (Nat → Int32)) G (va_A ((z, .inr (7, [.null, .int 0, .int 0, .int 0])) :: ky_WT G b va mm n f ml) sz) (fun v u => v = none ∧ ky_fit u.2) (fun u => ky_WT G b va mm n f ml ++ [(z, .inr (7, [.ref u.1, .int 0, .int 0, .int 0])), (u.1, .inl (G.2.1 0, n, .inl u.2))]) (fun _ _ => True)) (1) (34) (va_A ((z, .inr (7, [.null, .int 0, .int 0, .int 0])) :: ky_WT G b va mm n f ml) sz) := by
  refine ky_startI (by decide) (Nat.le_of_ble_eq_true rfl) (fun p e s m below meth c hin F hE A hAe hsz hA hfr hP hD hS hX ls hl => ?_)
  obtain ⟨hx, hb, hml, hown, hr, hlocks, hts⟩ := id F
  have hl : lv_has ls 5 [(0, .ref z), (1, .ref b), (2, .null)] := hl
  have hP : va_P G.1 kcl [(z, .inr (7, [.null, .int (0), .int (0), .int (0)])), (b, .inr (6, [.ref va, .int (0), .int (ml), .int (nI (n))])), (va, .inl (G.2.1 0, mm, .inl (f)))] s.heap := hP
  have hD : va_D A [(z, .inr (7, [.null, .int (0), .int (0), .int (0)])), (b, .inr (6, [.ref va, .int (0), .int (ml), .int (nI (n))])), (va, .inl (G.2.1 0, mm, .inl (f)))] := hD
  refine lv_aload_n hx hb dc_J0_init_db425_0 rfl (lv_at hl 0 rfl) ?_
  refine W.objInit hx hb hown (hts _ kw_2_79) (hts _ kw_1_36) (hts _ kw_1_37) rfl (by rw [hml]; exact hl.1) rfl dc_J0_init_db425_1 (Nat.le_of_ble_eq_true rfl) (Nat.le_of_ble_eq_true rfl) ?_
  refine W.eq (g2 := F0 m 4 ls []) rfl ?_
  refine lv_aload_n hx hb dc_J0_init_db425_4 rfl (lv_at hl 1 rfl) ?_
  refine ky_cUh (As := []) (wr := [(z, .inr (7, [.null, .int (0), .int (0), .int (0)])), (va, .inl (G.2.1 0, mm, .inl (f)))]) F (hE.at hfr hS) hfr (mt_J5_getValue_6d5f1 l G b va ml (nI (n)) s.heap.size ) (ku_J0_552.cu hts ⟨⟨rfl, rfl⟩, Nat.le_of_ble_eq_true rfl, Nat.le_of_ble_eq_true rfl⟩) rfl hl.1 rfl (Nat.le_of_ble_eq_true rfl) ⟨by show (_ : Nat) ≤ 1; omega, by show (_ : Nat) ≤ 34; omega⟩ (va_recv hE.1 hP (ci := 6) (q0 := 1) rfl rfl) trivial hP hD hS hA [1] [0, 2] rfl rfl (by decide) (by decide) (by decide) dc_J0_init_db425_5 ?_
  rintro v9 u9 H locs rfl hP hD hS - hz hk9
  have hP : va_P G.1 kcl [(z, .inr (7, [.null, .int (0), .int (0), .int (0)])), (va, .inl (G.2.1 0, mm, .inl (f))), (b, .inr (6, [.ref va, .int (0), .int (ml), .int (nI (n))]))] H := hP
  have hD : va_D A [(z, .inr (7, [.null, .int (0), .int (0), .int (0)])), (va, .inl (G.2.1 0, mm, .inl (f))), (b, .inr (6, [.ref va, .int (0), .int (ml), .int (nI (n))]))] := hD
  refine W.widen (k := 0) (n := 0) (by first | exact Nat.le_refl _ | omega) (by first | exact Nat.le_refl _ | omega) ?_
  refine lv_astore_n (lv' := [(3, .ref va), (0, .ref z), (1, .ref b), (2, .null)]) hx hb dc_J0_init_db425_8 rfl hl (by decide) rfl (fun ls hl => ?_)
  refine lv_aload_n hx hb dc_J0_init_db425_9 rfl (lv_at hl 2 rfl) ?_
  refine ky_cUh (As := []) (wr := [(z, .inr (7, [.null, .int (0), .int (0), .int (0)])), (va, .inl (G.2.1 0, mm, .inl (f)))]) F (hE.at hfr hS) hfr (mt_J4_length_8abf5 l G b va ml (nI (n)) H.size ) (ku_J0_549.cu hts ⟨⟨rfl, rfl⟩, Nat.le_of_ble_eq_true rfl, Nat.le_of_ble_eq_true rfl⟩) rfl hl.1 rfl (Nat.le_of_ble_eq_true rfl) ⟨by show (_ : Nat) ≤ 1; omega, by show (_ : Nat) ≤ 34; omega⟩ (va_recv hE.1 hP (ci := 6) (q0 := 2) rfl rfl) trivial hP hD hS hA [2] [0, 1] rfl rfl (by decide) (by decide) (by decide) dc_J0_init_db425_10 ?_
  rintro v9 u9 H locs rfl hP hD hS - hz hk9
  have hP : va_P G.1 kcl [(z, .inr (7, [.null, .int (0), .int (0), .int (0)])), (va, .inl (G.2.1 0, mm, .inl (f))), (b, .inr (6, [.ref va, .int (0), .int (ml), .int (nI (n))]))] H := hP
  have hD : va_D A [(z, .inr (7, [.null, .int (0), .int (0), .int (0)])), (va, .inl (G.2.1 0, mm, .inl (f))), (b, .inr (6, [.ref va, .int (0), .int (ml), .int (nI (n))]))] := hD
  refine W.widen (k := 0) (n := 0) (by first | exact Nat.le_refl _ | omega) (by first | exact Nat.le_refl _ | omega) ?_
  refine lv_istore (lv' := [(4, .int (nI (n))), (3, .ref va), (0, .ref z), (1, .ref b), (2, .null)]) hx hb dc_J0_init_db425_13 hl (by decide) rfl (fun ls hl => ?_)
  refine lv_aload_n hx hb dc_J0_init_db425_15 rfl (lv_at hl 3 rfl) ?_
  refine ky_cUh (As := []) (wr := [(z, .inr (7, [.null, .int (0), .int (0), .int (0)])), (va, .inl (G.2.1 0, mm, .inl (f)))]) F (hE.at hfr hS) hfr (mt_J5_isLatin1_aae02 l G b va ml (nI (n)) H.size ) (ku_J0_1047.cu hts ⟨⟨rfl, rfl⟩, Nat.le_of_ble_eq_true rfl, Nat.le_of_ble_eq_true rfl⟩) rfl hl.1 rfl (Nat.le_of_ble_eq_true rfl) ⟨by show (_ : Nat) ≤ 1; omega, by show (_ : Nat) ≤ 34; omega⟩ (va_recv hE.1 hP (ci := 6) (q0 := 2) rfl rfl) trivial hP hD hS hA [2] [0, 1] rfl rfl (by decide) (by decide) (by decide) dc_J0_init_db425_16 ?_
  rintro v9 u9 H locs rfl hP hD hS - hz hk9
  have hP : va_P G.1 kcl [(z, .inr (7, [.null, .int (0), .int (0), .int (0)])), (va, .inl (G.2.1 0, mm, .inl (f))), (b, .inr (6, [.ref va, .int (0), .int (ml), .int (nI (n))]))] H := hP
  have hD : va_D A [(z, .inr (7, [.null, .int (0), .int (0), .int (0)])), (va, .inl (G.2.1 0, mm, .inl (f))), (b, .inr (6, [.ref va, .int (0), .int (ml), .int (nI (n))]))] := hD
  refine W.widen (k := 0) (n := 0) (by first | exact Nat.le_refl _ | omega) (by first | exact Nat.le_refl _ | omega) ?_
  refine lv_if_eq (tgt := 41) hx hb dc_J0_init_db425_19 (by decide) (fun c_3 => absurd c_3 (by decide)) (fun _ => ?_)
  refine lv_aload_n hx hb dc_J0_init_db425_22 rfl (lv_at hl 2 rfl) ?_
  refine lv_iconst (v := 0) hx hb dc_J0_init_db425_23 (by decide) ?_
  refine va_putF (D := G.1) (ci := 7) (v := .int ((0 : Int32))) (ty := .byte) (C := RJ0) (T := TJ0) (N := 4) hx hb hts ki_J0 tyJ0 tyJ0_ok nmJ0 hown hE.1 hP hD hS 0 rfl rfl 1 (by decide) (hts _ kw_2_190) (fun _ h9 => h9) rfl hin rfl (by decide +kernel) rfl rfl (Nat.le_of_ble_eq_true rfl) dc_J0_init_db425_24 (fun H locs hP hD hS => ?_)
  have hP : va_P G.1 kcl [(z, .inr (7, [.null, .int ((0 : Int32)), .int (0), .int (0)])), (va, .inl (G.2.1 0, mm, .inl (f))), (b, .inr (6, [.ref va, .int (0), .int (ml), .int (nI (n))]))] H := hP
  have hD : va_D A [(z, .inr (7, [.null, .int ((0 : Int32)), .int (0), .int (0)])), (va, .inl (G.2.1 0, mm, .inl (f))), (b, .inr (6, [.ref va, .int (0), .int (ml), .int (nI (n))]))] := hD
  refine lv_aload_n hx hb dc_J0_init_db425_27 rfl (lv_at hl 2 rfl) ?_
  refine lv_aload_n hx hb dc_J0_init_db425_28 rfl (lv_at hl 1 rfl) ?_
  refine lv_iconst (v := 0) hx hb dc_J0_init_db425_29 (by decide) ?_
  refine lv_iload hx hb dc_J0_init_db425_30 (lv_at hl 0 rfl) ?_
  refine ky_cSh (As := [.ref va, .int ((0 : Int32)), .int (nI (n))]) (wr := [(z, .inr (7, [.null, .int ((0 : Int32)), .int (0), .int (0)])), (b, .inr (6, [.ref va, .int (0), .int (ml), .int (nI (n))]))]) F (hE.at hfr hS) hfr (mt_J7_copyOfRange_39247 l G va mm n f H.size hn hmm hf) ks_J0_54 ⟨⟨rfl, rfl⟩, Nat.le_of_ble_eq_true rfl, Nat.le_of_ble_eq_true rfl⟩ rfl hl.1 rfl (Nat.le_of_ble_eq_true rfl) ⟨by show (_ : Nat) ≤ 1; omega, by show (_ : Nat) ≤ 34; omega⟩ trivial hP hD hS hA [1] [0, 2] rfl rfl (by decide) (by decide) (by decide) dc_J0_init_db425_32 ?_
  rintro v9 ⟨y_4, g_4⟩ H locs ⟨rfl, hg_4⟩ hP hD hS - hz hk9
  have hP : va_P G.1 kcl [(z, .inr (7, [.null, .int ((0 : Int32)), .int (0), .int (0)])), (b, .inr (6, [.ref va, .int (0), .int (ml), .int (nI (n))])), (va, .inl (G.2.1 0, mm, .inl (f))), (y_4, .inl (G.2.1 0, n, .inl (g_4)))] H := hP
  have hD : va_D A [(z, .inr (7, [.null, .int ((0 : Int32)), .int (0), .int (0)])), (b, .inr (6, [.ref va, .int (0), .int (ml), .int (nI (n))])), (va, .inl (G.2.1 0, mm, .inl (f))), (y_4, .inl (G.2.1 0, n, .inl (g_4)))] := hD
  refine W.widen (k := 1) (n := 34) (by first | exact Nat.le_refl _ | omega) (by first | exact Nat.le_refl _ | omega) ?_
  refine va_putF (D := G.1) (ci := 7) (v := .ref y_4) (ty := .array .byte) (C := RJ0) (T := TJ0) (N := 4) hx hb hts ki_J0 tyJ0 tyJ0_ok nmJ0 hown hE.1 hP hD hS 0 rfl rfl 0 (by decide) (hts _ kw_2_189) (fun _ h9 => h9) rfl hin rfl (by decide +kernel) rfl rfl (Nat.le_of_ble_eq_true rfl) dc_J0_init_db425_35 (fun H locs hP hD hS => ?_)
  have hP : va_P G.1 kcl [(z, .inr (7, [.ref y_4, .int ((0 : Int32)), .int (0), .int (0)])), (b, .inr (6, [.ref va, .int (0), .int (ml), .int (nI (n))])), (va, .inl (G.2.1 0, mm, .inl (f))), (y_4, .inl (G.2.1 0, n, .inl (g_4)))] H := hP
  have hD : va_D A [(z, .inr (7, [.ref y_4, .int ((0 : Int32)), .int (0), .int (0)])), (b, .inr (6, [.ref va, .int (0), .int (ml), .int (nI (n))])), (va, .inl (G.2.1 0, mm, .inl (f))), (y_4, .inl (G.2.1 0, n, .inl (g_4)))] := hD
  refine lv_goto (tgt := 97) hx hb dc_J0_init_db425_38 (by decide) ?_
  have hP9 := hP.sub (ws' := [(b, .inr (6, [.ref va, .int (0), .int (ml), .int (nI (n))])), (va, .inl (G.2.1 0, mm, .inl (f))), (z, .inr (7, [.ref y_4, .int ((0 : Int32)), .int (0), .int (0)])), (y_4, .inl (G.2.1 0, n, .inl (g_4)))]) [1, 2, 0, 3] rfl
  have hD9 := hD.sub (ws' := [(b, .inr (6, [.ref va, .int (0), .int (ml), .int (nI (n))])), (va, .inl (G.2.1 0, mm, .inl (f))), (z, .inr (7, [.ref y_4, .int ((0 : Int32)), .int (0), .int (0)])), (y_4, .inl (G.2.1 0, n, .inl (g_4)))]) [1, 2, 0, 3] (by decide) rfl
  refine W.widen (k := 1) (n := 34) (by omega) (by omega) ?_
  exact W.vret hx hb hr (fun t ht hW => ⟨⟨_, (y_4, g_4), rfl, ⟨rfl, hg_4⟩, by rw [ht]; exact hP9, hD9, trivial⟩, hS.F ht⟩) hS.2.2 dc_J0_init_db425_97
set_option linter.constructorNameAsVariable false in
set_option maxHeartbeats 4000000 in
set_option maxRecDepth 100000 in
theorem mt_J0_init_81219 (l : Launch) (G : ky_G) (z : Nat) (b : Nat) (va : Nat) (mm : Nat) (n : Nat) (f : Nat → Int32) (ml : Int32) (sz : Nat) (hn : n ≤ mm) (hmm : mm ≤ 34) (hf : ky_fit f) : Met l my_J0_init_81219 (.code my_J0_init_81219 prog_22_method_53_code 2 none :: ky_B) { frames := 4, cells := 1, slots := 34, locals := 110 } (ky_P G [.ref z, .ref b] ((z, .inr (7, [.null, .int 0, .int 0, .int 0])) :: ky_WT G b va mm n f ml) sz (fun _ => True)) (ky_Q (S := Nat × (Nat → Int32)) G (va_A ((z, .inr (7, [.null, .int 0, .int 0, .int 0])) :: ky_WT G b va mm n f ml) sz) (fun v u => v = none ∧ ky_fit u.2) (fun u => ky_WT G b va mm n f ml ++ [(z, .inr (7, [.ref u.1, .int 0, .int 0, .int 0])), (u.1, .inl (G.2.1 0, n, .inl u.2))]) (fun _ _ => True)) (1) (34) (va_A ((z, .inr (7, [.null, .int 0, .int 0, .int 0])) :: ky_WT G b va mm n f ml) sz) := by
  refine ky_startI (by decide) (Nat.le_of_ble_eq_true rfl) (fun p e s m below meth c hin F hE A hAe hsz hA hfr hP hD hS hX ls hl => ?_)
  obtain ⟨hx, hb, hml, hown, hr, hlocks, hts⟩ := id F
  have hl : lv_has ls 2 [(0, .ref z), (1, .ref b)] := hl
  have hP : va_P G.1 kcl [(z, .inr (7, [.null, .int (0), .int (0), .int (0)])), (b, .inr (6, [.ref va, .int (0), .int (ml), .int (nI (n))])), (va, .inl (G.2.1 0, mm, .inl (f)))] s.heap := hP
  have hD : va_D A [(z, .inr (7, [.null, .int (0), .int (0), .int (0)])), (b, .inr (6, [.ref va, .int (0), .int (ml), .int (nI (n))])), (va, .inl (G.2.1 0, mm, .inl (f)))] := hD
  refine lv_aload_n hx hb dc_J0_init_81219_0 rfl (lv_at hl 0 rfl) ?_
  refine lv_aload_n hx hb dc_J0_init_81219_1 rfl (lv_at hl 1 rfl) ?_
  refine lv_null hx hb dc_J0_init_81219_2 ?_
  refine ky_cIh (As := [.ref b, .null]) (wr := []) F (hE.at hfr hS) hfr (mt_J0_init_db425 l G z b va mm n f ml s.heap.size hn hmm hf) kI_J0_489 ⟨⟨rfl, rfl⟩, Nat.le_of_ble_eq_true rfl, Nat.le_of_ble_eq_true rfl⟩ rfl hl.1 rfl (Nat.le_of_ble_eq_true rfl) ⟨by show (_ : Nat) ≤ 1; omega, by show (_ : Nat) ≤ 34; omega⟩ trivial hP hD hS hA [0, 1, 2] [] rfl rfl (by decide) (by decide) (by decide) dc_J0_init_81219_3 ?_
  rintro v9 ⟨y_0, g_0⟩ H locs ⟨rfl, hg_0⟩ hP hD hS - hz hk9
  have hP : va_P G.1 kcl [(b, .inr (6, [.ref va, .int (0), .int (ml), .int (nI (n))])), (va, .inl (G.2.1 0, mm, .inl (f))), (z, .inr (7, [.ref y_0, .int (0), .int (0), .int (0)])), (y_0, .inl (G.2.1 0, n, .inl (g_0)))] H := hP
  have hD : va_D A [(b, .inr (6, [.ref va, .int (0), .int (ml), .int (nI (n))])), (va, .inl (G.2.1 0, mm, .inl (f))), (z, .inr (7, [.ref y_0, .int (0), .int (0), .int (0)])), (y_0, .inl (G.2.1 0, n, .inl (g_0)))] := hD
  refine W.widen (k := 1) (n := 34) (by first | exact Nat.le_refl _ | omega) (by first | exact Nat.le_refl _ | omega) ?_
  have hP9 := hP.sub (ws' := [(b, .inr (6, [.ref va, .int (0), .int (ml), .int (nI (n))])), (va, .inl (G.2.1 0, mm, .inl (f))), (z, .inr (7, [.ref y_0, .int (0), .int (0), .int (0)])), (y_0, .inl (G.2.1 0, n, .inl (g_0)))]) [0, 1, 2, 3] rfl
  have hD9 := hD.sub (ws' := [(b, .inr (6, [.ref va, .int (0), .int (ml), .int (nI (n))])), (va, .inl (G.2.1 0, mm, .inl (f))), (z, .inr (7, [.ref y_0, .int (0), .int (0), .int (0)])), (y_0, .inl (G.2.1 0, n, .inl (g_0)))]) [0, 1, 2, 3] (by decide) rfl
  refine W.widen (k := 1) (n := 34) (by omega) (by omega) ?_
  exact W.vret hx hb hr (fun t ht hW => ⟨⟨_, (y_0, g_0), rfl, ⟨rfl, hg_0⟩, by rw [ht]; exact hP9, hD9, trivial⟩, hS.F ht⟩) hS.2.2 dc_J0_init_81219_6
set_option linter.constructorNameAsVariable false in
set_option maxHeartbeats 4000000 in
set_option maxRecDepth 100000 in
theorem mt_J4_toString_0e30d (l : Launch) (G : ky_G) (b : Nat) (va : Nat) (mm : Nat) (n : Nat) (f : Nat → Int32) (ml : Int32) (sz : Nat) (hn : n ≤ mm) (hmm : mm ≤ 34) (hf : ky_fit f) : Met l my_J4_toString_0e30d (.code my_J4_toString_0e30d prog_23_method_42_code 1 (Option.some (Jvm.ClassFile.FieldType.object "java/lang/String")) :: ky_B) { frames := 5, cells := 2, slots := 38, locals := 131 } (ky_P G [.ref b] (ky_WT G b va mm n f ml) sz (fun _ => True)) (ky_Q (S := Nat × Nat × (Nat → Int32)) G (va_A (ky_WT G b va mm n f ml) sz) (fun v u => v = some (.ref u.1) ∧ ky_fit u.2.2) (fun u => ky_WT G b va mm n f ml ++ [(u.1, .inr (7, [.ref u.2.1, .int 0, .int 0, .int 0])), (u.2.1, .inl (G.2.1 0, n, .inl u.2.2))]) (fun _ _ => True)) (2) (38) (va_A (ky_WT G b va mm n f ml) sz) := by
  refine ky_start (by decide) (Nat.le_of_ble_eq_true rfl) (fun p e s m below meth c F hE A hAe hsz hA hfr hP hD hS hX ls hl => ?_)
  obtain ⟨hx, hb, hml, hown, hr, hlocks, hts⟩ := id F
  have hl : lv_has ls 1 [(0, .ref b)] := hl
  have hP : va_P G.1 kcl [(b, .inr (6, [.ref va, .int (0), .int (ml), .int (nI (n))])), (va, .inl (G.2.1 0, mm, .inl (f)))] s.heap := hP
  have hD : va_D A [(b, .inr (6, [.ref va, .int (0), .int (ml), .int (nI (n))])), (va, .inl (G.2.1 0, mm, .inl (f)))] := hD
  refine va_new (ci := 7) (fs := [.null, .int (0), .int (0), .int (0)]) (C := RJ0) (T := TJ0) (N := 4) hx hb hts ki_J0 tyJ0 tyJ0_ok hown (hts _ kw_2_71) (hts _ kw_2_72) (hts _ kw_1_5) hE.1 hP hD hS hA rfl (fun j hj => by rcases (show j = 0 ∨ j = 1 ∨ j = 2 ∨ j = 3 by omega) with rfl | rfl | rfl | rfl <;> rfl) (Nat.le_of_ble_eq_true rfl) (Nat.le_of_ble_eq_true rfl) dc_J4_toString_0e30d_0 (fun q_0 H hP hD hS => ?_)
  have hP : va_P G.1 kcl [(b, .inr (6, [.ref va, .int (0), .int (ml), .int (nI (n))])), (va, .inl (G.2.1 0, mm, .inl (f))), (q_0, .inr (7, [.null, .int (0), .int (0), .int (0)]))] H := hP
  have hD : va_D A [(b, .inr (6, [.ref va, .int (0), .int (ml), .int (nI (n))])), (va, .inl (G.2.1 0, mm, .inl (f))), (q_0, .inr (7, [.null, .int (0), .int (0), .int (0)]))] := hD
  refine W.widen (k := 1) (n := 4) (Nat.le_refl _) (Nat.le_refl _) ?_
  refine lv_dup hx hb dc_J4_toString_0e30d_3 rfl ?_
  refine lv_aload_n hx hb dc_J4_toString_0e30d_4 rfl (lv_at hl 0 rfl) ?_
  refine ky_cIh (As := [.ref b]) (wr := []) F (hE.at hfr hS) hfr (mt_J0_init_81219 l G q_0 b va mm n f ml H.size hn hmm hf) kI_J4_137 ⟨⟨rfl, rfl⟩, Nat.le_of_ble_eq_true rfl, Nat.le_of_ble_eq_true rfl⟩ rfl hl.1 rfl (Nat.le_of_ble_eq_true rfl) ⟨by show (_ : Nat) ≤ 2; omega, by show (_ : Nat) ≤ 38; omega⟩ trivial hP hD hS hA [2, 0, 1] [] rfl rfl (by decide) (by decide) (by decide) dc_J4_toString_0e30d_5 ?_
  rintro v9 ⟨y_1, g_1⟩ H locs ⟨rfl, hg_1⟩ hP hD hS - hz hk9
  have hP : va_P G.1 kcl [(b, .inr (6, [.ref va, .int (0), .int (ml), .int (nI (n))])), (va, .inl (G.2.1 0, mm, .inl (f))), (q_0, .inr (7, [.ref y_1, .int (0), .int (0), .int (0)])), (y_1, .inl (G.2.1 0, n, .inl (g_1)))] H := hP
  have hD : va_D A [(b, .inr (6, [.ref va, .int (0), .int (ml), .int (nI (n))])), (va, .inl (G.2.1 0, mm, .inl (f))), (q_0, .inr (7, [.ref y_1, .int (0), .int (0), .int (0)])), (y_1, .inl (G.2.1 0, n, .inl (g_1)))] := hD
  refine W.widen (k := 2) (n := 38) (by first | exact Nat.le_refl _ | omega) (by first | exact Nat.le_refl _ | omega) ?_
  have hP9 := hP.sub (ws' := [(b, .inr (6, [.ref va, .int (0), .int (ml), .int (nI (n))])), (va, .inl (G.2.1 0, mm, .inl (f))), (q_0, .inr (7, [.ref y_1, .int (0), .int (0), .int (0)])), (y_1, .inl (G.2.1 0, n, .inl (g_1)))]) [0, 1, 2, 3] rfl
  have hD9 := hD.sub (ws' := [(b, .inr (6, [.ref va, .int (0), .int (ml), .int (nI (n))])), (va, .inl (G.2.1 0, mm, .inl (f))), (q_0, .inr (7, [.ref y_1, .int (0), .int (0), .int (0)])), (y_1, .inl (G.2.1 0, n, .inl (g_1)))]) [0, 1, 2, 3] (by decide) rfl
  refine W.widen (k := 2) (n := 38) (by omega) (by omega) ?_
  exact W.aret (v := .ref q_0) hx hb hr (Or.inl ⟨_, rfl⟩) (Or.inr ⟨_, rfl⟩) (fun t ht hW => ⟨⟨_, (q_0, y_1, g_1), rfl, ⟨rfl, hg_1⟩, by rw [ht]; exact hP9, hD9, trivial⟩, hS.F ht⟩) hS.2.2 dc_J4_toString_0e30d_8
end
section
/-! the scribe: its object, its row of signs, its builder -/
theorem ky_capc {m a b : Nat} (h : ky_m2 m) (hab : a ≤ b) (hb : b ≤ 34) : ky_cap (ky_cap m a) b = ky_cap m b := by
  unfold ky_cap
  rcases h with rfl | rfl <;> (repeat' split) <;> omega
theorem ky_gcc {m a b : Nat} (h : ky_m2 m) (hab : a ≤ b) (hb : b ≤ 34) : ky_gc m a + ky_gc (ky_cap m a) b = ky_gc m b := by
  unfold ky_gc ky_cap
  rcases h with rfl | rfl <;> (repeat' split) <;> omega
theorem ky_gsc {m a b : Nat} (h : ky_m2 m) (hab : a ≤ b) (hb : b ≤ 34) : ky_gs m a + ky_gs (ky_cap m a) b = ky_gs m b := by
  unfold ky_gs ky_cap
  rcases h with rfl | rfl <;> (repeat' split) <;> omega
theorem ky_gmost (m q : Nat) : ky_gc m q ≤ 1 ∧ ky_gs m q ≤ 34 := by
  unfold ky_gc ky_gs
  split <;> omega
def ky_chs (f : Nat → Int32) : Prop := ∀ i : Nat, ¬ (255 : Int32) < f i
theorem ky_chs0 : ky_chs (fun _ => 0) := fun _ => (show ¬ (255 : Int32) < 0 from by decide)
theorem ky_chsU {f : Nat → Int32} (h : ky_chs f) (k : Nat) {x : Int32} (hx : ¬ (255 : Int32) < x) : ky_chs (upd f k x) := by
  intro i
  by_cases e : i = k
  · rw [e, pk_us]; exact hx
  · rw [pk_un e]; exact h i
abbrev ky_WC (G : ky_G) (sc fg : Nat) (fc : Nat → Int32) (b va m n : Nat) (f : Nat → Int32) (ml : Int32) : va_W := [(sc, .inr (1, [.ref b, .ref fg])), (fg, .inl (G.2.1 1, 19, .inl fc)), (b, .inr (6, [.ref va, .int 0, .int ml, .int (nI n)])), (va, .inl (G.2.1 0, m, .inl f))]
theorem ky_tdiv10 (v : Nat) : (-(v : Int)).tdiv 10 = -((v / 10 : Nat) : Int) := by
  rw [Int.neg_tdiv]
  rfl
theorem ky_div10J {x : Int64} {v : Nat} (hv : x.toInt = -(v : Int)) : (x / 10).toInt = -((v / 10 : Nat) : Int) := by
  have h1 := Int64.le_toInt x
  have h2 := Int64.toInt_lt x
  rw [Int64.toInt_div, hv, show (10 : Int64).toInt = 10 from rfl, ky_tdiv10]
  apply Int.bmod_eq_of_le <;> omega
theorem ky_dig {x : Int64} {v : Nat} (hv : x.toInt = -(v : Int)) : ((48 : Int64) - (x - x / 10 * 10)).toInt32 = nI (48 + v % 10) := by
  have h1 := Int64.le_toInt x
  have h2 := Int64.toInt_lt x
  have h3 : (x - x / 10 * 10).toInt = -((v % 10 : Nat) : Int) := by
    rw [Int64.toInt_sub, Int64.toInt_mul, ky_div10J hv, hv, show (10 : Int64).toInt = 10 from rfl, Int.bmod_eq_of_le (n := -((v / 10 : Nat) : Int) * 10) (by omega) (by omega)]
    rw [show -(v : Int) - -((v / 10 : Nat) : Int) * 10 = -((v % 10 : Nat) : Int) by omega]
    apply Int.bmod_eq_of_le <;> omega
  have h4 : ((48 : Int64) - (x - x / 10 * 10)).toInt = ((48 + v % 10 : Nat) : Int) := by
    rw [Int64.toInt_sub, h3, show (48 : Int64).toInt = 48 from rfl]
    rw [show (48 : Int) - -((v % 10 : Nat) : Int) = ((48 + v % 10 : Nat) : Int) by omega]
    apply Int.bmod_eq_of_le <;> omega
  apply Int32.toInt_inj.mp
  rw [Int64.toInt_toInt32, h4, nI_toInt (by omega)]
  apply Int.bmod_eq_of_le <;> omega
theorem ky_dch {x : Int64} {v : Nat} (hv : x.toInt = -(v : Int)) : ¬ (255 : Int32) < vp_nar .char ((((48 : Int64) - (x - x / 10 * 10)).toInt32.toUInt32 % 65536).toInt32) := by
  rw [ky_dig hv, pk_char, pk_tn (by omega), Nat.mod_eq_of_lt (by omega)]
  have e : vp_nar .char (nI (48 + v % 10)) = nI (48 + v % 10) := by
    unfold vp_nar
    rw [(pk_charN (by omega)).1]
  rw [e]
  exact nI_nlt (a := 255) (by omega) (by omega)
theorem ky_z10 {x : Int64} {v : Nat} (hv : x.toInt = -(v : Int)) (h : lg_cmp (x / 10) 0 = 0) : v < 10 := by
  have h2 : (x / 10).toInt = 0 := by rw [(lg_cmp_eq _ _).mp h]; rfl
  rw [ky_div10J hv] at h2
  omega
theorem ky_nz10 {x : Int64} {v : Nat} (hv : x.toInt = -(v : Int)) (h : ¬ lg_cmp (x / 10) 0 = 0) : 10 ≤ v := by
  have h2 : ¬ (x / 10) = 0 := fun z => h ((lg_cmp_eq _ _).mpr z)
  have h3 : ¬ (x / 10).toInt = 0 := fun z => h2 (Int64.toInt_inj.mp z)
  rw [ky_div10J hv] at h3
  omega
theorem ky_dd10 {v : Nat} (h : 10 ≤ v) (hv : v < 10 ^ 20) : ky_d v = ky_d (v / 10) + 1 := by
  have h2 : v / 10 < 10 ^ 30 := Nat.lt_of_le_of_lt (Nat.div_le_self _ _) (Nat.lt_trans hv (by decide))
  unfold ky_d
  rw [ky_dgC 29 (v / 10) h2]
  rw [show (30 : Nat) = 29 + 1 from rfl, ky_dg, if_neg (by omega)]
theorem ky_dJ {x : Int64} {v : Nat} (hv : x.toInt = -(v : Int)) : ky_d v ≤ 19 := by
  have h1 := Int64.le_toInt x
  exact ky_dgL 30 18 v (by omega)
/-! the odd factor and its power, as appendSize finds them -/
def ky_sh : Nat → Int32
  | 7 => 32 | 6 => 16 | 5 => 8 | 4 => 4 | 3 => 2 | 2 => 1 | _ => 0
def ky_od : Nat → Int64 → Int32 → Int64 × Int32
  | 0, o, p => (o, p)
  | n + 1, o, p => if ky_sh (n + 1) ≤ 0 then (o, p) else if o &&& (jlshl 1 (ky_sh (n + 1)) - 1) = 0 then ky_od n (jlushr o (ky_sh (n + 1))) (p + ky_sh (n + 1)) else ky_od n o p
theorem ky_sh_next : ∀ n, n < 7 → ¬ ky_sh (n + 1) ≤ 0 → ky_sh (n + 1) >>> ((1 : Int32) &&& 31) = ky_sh n ∧ 1 ≤ n := by decide
theorem ky_od0 {n : Nat} {o : Int64} {p : Int32} (h : ky_sh (n + 1) ≤ 0) : ky_od (n + 1) o p = (o, p) := by rw [ky_od, if_pos h]
theorem ky_od1 {n : Nat} {o : Int64} {p : Int32} (h : ¬ ky_sh (n + 1) ≤ 0) (h2 : o &&& (jlshl 1 (ky_sh (n + 1)) - 1) = 0) : ky_od (n + 1) o p = ky_od n (jlushr o (ky_sh (n + 1))) (p + ky_sh (n + 1)) := by rw [ky_od, if_neg h, if_pos h2]
theorem ky_od2 {n : Nat} {o : Int64} {p : Int32} (h : ¬ ky_sh (n + 1) ≤ 0) (h2 : ¬ o &&& (jlshl 1 (ky_sh (n + 1)) - 1) = 0) : ky_od (n + 1) o p = ky_od n o p := by rw [ky_od, if_neg h, if_neg h2]
theorem ky_ushr_nn {o : Int64} (h : 0 ≤ o.toInt) : ∀ n, n < 7 → 0 ≤ (jlushr o (ky_sh (n + 1))).toInt := by
  obtain ⟨k, hk, rfl⟩ := pk_lOf (x := o) (fun z => by have := ky_negJ z; omega)
  have key : ∀ j, j < 64 → 0 ≤ (jlushr (lN k) (nI j)).toInt := by
    intro j hj
    unfold jlushr
    rw [wb_shr (by omega) hj, pk_lT (Nat.lt_of_le_of_lt (Nat.div_le_self _ _) hk)]
    exact Int.natCast_nonneg _
  intro n hn
  have : n = 0 ∨ n = 1 ∨ n = 2 ∨ n = 3 ∨ n = 4 ∨ n = 5 ∨ n = 6 := by omega
  rcases this with rfl | rfl | rfl | rfl | rfl | rfl | rfl
  · exact key 0 (by decide)
  · exact key 1 (by decide)
  · exact key 2 (by decide)
  · exact key 4 (by decide)
  · exact key 8 (by decide)
  · exact key 16 (by decide)
  · exact key 32 (by decide)
theorem ky_od_nn : ∀ (n : Nat) (o : Int64) (p : Int32), n ≤ 7 → 0 ≤ o.toInt → 0 ≤ (ky_od n o p).1.toInt := by
  intro n
  induction n with
  | zero => intro o p _ h; exact h
  | succ n ih =>
    intro o p hn h
    by_cases h1 : ky_sh (n + 1) ≤ 0
    · rw [ky_od0 h1]; exact h
    · by_cases h2 : o &&& (jlshl 1 (ky_sh (n + 1)) - 1) = 0
      · rw [ky_od1 h1 h2]; exact ih _ _ (by omega) (ky_ushr_nn h n (by omega))
      · rw [ky_od2 h1 h2]; exact ih _ _ (by omega) h
theorem ky_szJ_nn {x : Int64} (h : 0 ≤ x.toInt) : ky_szJ x ≤ 19 := by
  have h2 := Int64.toInt_lt x
  have h4 := ky_dgL 30 18 x.toInt.natAbs (by omega)
  have h5 : ¬ x < 0 := fun z => by have := ky_negJ z; omega
  unfold ky_szJ ky_d
  rw [if_neg h5]
  omega
theorem ky_rc {m a b q : Nat} (h : ky_m2 m) (hab : a ≤ b) (hb : b ≤ q) (hq : q ≤ 34) : ky_gc m a + ky_gc (ky_cap m a) b ≤ ky_gc m q ∧ ky_gs m a + ky_gs (ky_cap m a) b ≤ ky_gs m q := by
  unfold ky_gc ky_gs ky_cap
  rcases h with rfl | rfl <;> (repeat' split) <;> omega
theorem ky_rc0 {m b q : Nat} (h : ky_m2 m) (hb : b ≤ q) (hq : q ≤ 34) : 0 + ky_gc m b ≤ ky_gc m q ∧ 0 + ky_gs m b ≤ ky_gs m q := by
  unfold ky_gc ky_gs
  rcases h with rfl | rfl <;> (repeat' split) <;> omega
theorem ky_rc1 {m a b : Nat} (h : ky_m2 m) (hab : a ≤ b) (hb : b ≤ 34) : ky_gc m a + ky_gc (ky_cap m a) b ≤ 1 ∧ ky_gs m a + ky_gs (ky_cap m a) b ≤ 34 := by
  unfold ky_gc ky_gs ky_cap
  rcases h with rfl | rfl <;> (repeat' split) <;> omega
theorem ky_rc2 {m b : Nat} : 0 + ky_gc m b ≤ 1 ∧ 0 + ky_gs m b ≤ 34 := by
  unfold ky_gc ky_gs
  split <;> omega
theorem ky_gc0 (m : Nat) : ky_gc m 0 = 0 := if_pos (Nat.zero_le _)
theorem ky_gs0 (m : Nat) : ky_gs m 0 = 0 := if_pos (Nat.zero_le _)
theorem ky_odE {n : Nat} {o a : Int64} {p b : Int32} (hR : ky_od (n + 1) o p = ky_od 7 a b) (h : ky_sh (n + 1) ≤ 0) : o = (ky_od 7 a b).1 ∧ p = (ky_od 7 a b).2 := by
  rw [← hR, ky_od0 h]
  exact ⟨rfl, rfl⟩
theorem ky_m2.le34 {m : Nat} (h : ky_m2 m) : m ≤ 34 := by rcases h with rfl | rfl <;> decide
end
section
/-- how many signs a number's text has -/
def ky_tl (a : Int64) : Nat := (if fn_X0_isDownOne a = 0 then 0 else 1) + (if lg_cmp (fn_X0_sizeIn a) 0 = 0 then 1 else if fn_X0_isEndlessOne a = 0 then (ky_szJ (ky_od 7 (fn_X0_factorIn a) (fn_X0_powerIn a)).1 + 3 + ky_szI (ky_od 7 (fn_X0_factorIn a) (fn_X0_powerIn a)).2) else 1)
theorem ky_low_nn (a : Int64) : 0 ≤ (a &&& 4503599627370495).toInt ∧ (a &&& 4503599627370495).toInt < 2 ^ 52 := by
  obtain ⟨n, hn, rfl⟩ := wb_of a
  have e : (lN n &&& 4503599627370495) = lN (n % 2 ^ 52) := wb_mask hn (k := 52) (by decide)
  have h : n % 2 ^ 52 < 2 ^ 52 := Nat.mod_lt _ (by decide)
  rw [e, pk_lT (by omega)]
  omega
theorem ky_fac_nn (a : Int64) : 0 ≤ (fn_X0_factorIn a).toInt := by
  have h := ky_low_nn a
  unfold fn_X0_factorIn
  split
  · exact h.1
  · show 0 ≤ ((a &&& 4503599627370495) + 4503599627370496).toInt
    rw [Int64.toInt_add, show (4503599627370496 : Int64).toInt = 4503599627370496 from rfl, Int.bmod_eq_of_le (by omega) (by omega)]
    omega
theorem ky_tl3 (a : Int64) : ky_szJ (ky_od 7 (fn_X0_factorIn a) (fn_X0_powerIn a)).1 ≤ 19 ∧ 1 ≤ ky_szI (ky_od 7 (fn_X0_factorIn a) (fn_X0_powerIn a)).2 ∧ ky_szI (ky_od 7 (fn_X0_factorIn a) (fn_X0_powerIn a)).2 ≤ 11 :=
  ⟨ky_szJ_nn (ky_od_nn 7 _ _ (by decide) (ky_fac_nn a)), ky_szI_le _⟩
theorem ky_tl_le (a : Int64) : ky_tl a ≤ 34 := by
  have h := ky_tl3 a
  unfold ky_tl
  split <;> (repeat' split) <;> omega
end
