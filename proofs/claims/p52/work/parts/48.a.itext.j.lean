section
set_option linter.constructorNameAsVariable false in
set_option maxHeartbeats 4000000 in
set_option maxRecDepth 100000 in
theorem ml_X8_text_L76 {p : Program} {l : Launch} {e : Env} {s : State} {m : MethodId} {args : Array Value} {below : List Frame} {meth : Method} {c : Code} {G : ky_G} {A : Nat → Prop} {b0 : Nat} {v0 : Int32 × Int64} (F : ky_F p s m meth c my_X8_text.cls prog_11_method_15_code 5 (Option.some (Jvm.ClassFile.FieldType.object "java/lang/String")) args) (hE : ky_E G s) (hA : ∀ q, s.heap.size ≤ q → A q) (hfr : ∀ q, A q → ky_fr G q)   : ∀ (n9 : Nat) (ah : Nat) (wA : Nat) (gA : Nat → Int32) (v8 : Nat) (pw : Int32) (hkA : ky_Str G ah wA gA) (hwA : wA ≤ 1) (hn9 : v8 ≤ n9) (hv1 : 1 ≤ v8) (hv2 : v8 < 2 ^ 53) (H : Heap) (locs : List Loc), va_P G.1 kcl [] H → va_D A [] → va_S A s.heap H locs →  ∀ ls : Array Slot, lv_has ls 5 [(1, .ref ah), (2, .long (lN v8)), (4, .int (pw))] → W p l e { frames := 6, cells := 8, slots := 194, locals := 151 } s m args below meth c H locs (0) (0) (MQ below (ky_Q (S := Nat × Nat × Nat × (Nat → Int32)) G A (fun v u => v = some (.ref u.1) ∧ u.2.2.1 ≤ 34 ∧ ky_fit u.2.2.2) (fun u => ky_WZ G u) (fun _ _ => True)) args s (8) (194) A) (F0 m 76 ls []) := by
  obtain ⟨hx, hb, hml, hown, hr, hlocks, hts⟩ := id F
  intro n9
  induction n9 with
  | zero => intro ah wA gA v8 pw hkA hwA hn9 hv1 hv2; exact False.elim (by omega)
  | succ n9 ih =>
      intro ah wA gA v8 pw hkA hwA hn9 hv1 hv2 H locs hP hD hS  ls hl
      refine lv_lload_n hx hb dc_X8_text_76 rfl (lv_at hl 1 rfl) ?_
      refine lv_ldc2 (v := 2) hx hb hown (hts _ kw_6_168) dc_X8_text_77 ?_
      refine lv_lrem hx hb dc_X8_text_80 (by decide) ?_
      refine lv_lconst (v := 0) hx hb dc_X8_text_81 (by decide) ?_
      refine W.lcmp hx hb dc_X8_text_82 ?_
      refine lv_if_ne (tgt := 98) hx hb dc_X8_text_83 (by decide) (fun c_0 => ?_) (fun c_0 => ?_)
      · skip
        have hsz := ky_lNsz (v := v8) (by omega)
        have hsi := ky_szI_le (pw)
        refine va_new (ci := 6) (fs := [.null, .int (0), .int (0), .int (0)]) (C := RJ4) (T := TJ4) (N := 4) hx hb hts ki_J4 tyJ4 tyJ4_ok hown (hts _ kw_7_55) (hts _ kw_1_45) (hts _ kw_1_4) hE.1 hP hD hS hA rfl (fun j hj => by rcases (show j = 0 ∨ j = 1 ∨ j = 2 ∨ j = 3 by omega) with rfl | rfl | rfl | rfl <;> rfl) (Nat.le_of_ble_eq_true rfl) (Nat.le_of_ble_eq_true rfl) dc_X8_text_98 (fun q_1 H hP hD hS => ?_)
        have hP : va_P G.1 kcl [(q_1, .inr (6, [.null, .int (0), .int (0), .int (0)]))] H := hP
        have hD : va_D A [(q_1, .inr (6, [.null, .int (0), .int (0), .int (0)]))] := hD
        refine W.widen (k := 1) (n := 4) (Nat.le_refl _) (Nat.le_refl _) ?_
        refine lv_dup hx hb dc_X8_text_101 rfl ?_
        refine ky_cIh (As := []) (wr := []) F (hE.at hfr hS) hfr (mt_J4_init_da8c8 l G q_1 H.size ) kI_X8_61 ⟨⟨rfl, rfl⟩, Nat.le_of_ble_eq_true rfl, Nat.le_of_ble_eq_true rfl⟩ rfl hl.1 rfl (Nat.le_of_ble_eq_true rfl) ⟨Nat.le_of_ble_eq_true rfl, Nat.le_of_ble_eq_true rfl⟩ trivial hP hD hS hA [0] [] rfl rfl (by decide) (by decide) (by decide) dc_X8_text_102 ?_
        rintro v9 va_2 H locs rfl hP hD hS - hz hk9
        have hP : va_P G.1 kcl [(q_1, .inr (6, [.ref va_2, .int (0), .int (0), .int (nI (0))])), (va_2, .inl (G.2.1 0, 16, .inl (fun _ => 0)))] H := hP
        have hD : va_D A [(q_1, .inr (6, [.ref va_2, .int (0), .int (0), .int (nI (0))])), (va_2, .inl (G.2.1 0, 16, .inl (fun _ => 0)))] := hD
        refine W.widen (k := 2) (n := 20) (by first | exact Nat.le_refl _ | omega) (by first | exact Nat.le_refl _ | omega) ?_
        refine lv_aload_n hx hb dc_X8_text_105 rfl (lv_at hl 0 rfl) ?_
        refine ky_cVh (As := [.ref ah]) (wr := []) F (hE.at hfr hS) hfr (mt_J4_append_15ec4 l G q_1 va_2 16 0 (fun _ => 0) 0 ah wA gA H.size (Or.inl rfl) ky_fit0 hkA (by omega)) kv_X8_62 ⟨⟨rfl, rfl⟩, Nat.le_of_ble_eq_true rfl, Nat.le_of_ble_eq_true rfl⟩ rfl hl.1 rfl (Nat.le_of_ble_eq_true rfl) ⟨Nat.le_trans (ky_gp 2 16 (0 + wA)) (Nat.le_of_ble_eq_true rfl), Nat.le_trans (ky_gp2 20 16 (0 + wA)) (Nat.le_of_ble_eq_true rfl)⟩ (va_recv hE.1 hP (ci := 6) (q0 := 0) rfl rfl) trivial hP hD hS hA [0, 1] [] rfl rfl (by decide) (by decide) (by decide) dc_X8_text_106 ?_
        rintro v9 ⟨va_3, f_3⟩ H locs ⟨rfl, hf_3⟩ hP hD hS - hz hk9
        have hP : va_P G.1 kcl [(q_1, .inr (6, [.ref va_3, .int (0), .int (0), .int (nI (0 + wA))])), (va_3, .inl (G.2.1 0, ky_cap 16 (0 + wA), .inl (f_3)))] H := hP
        have hD : va_D A [(q_1, .inr (6, [.ref va_3, .int (0), .int (0), .int (nI (0 + wA))])), (va_3, .inl (G.2.1 0, ky_cap 16 (0 + wA), .inl (f_3)))] := hD
        refine W.widen (k := 3) (n := 54) (ky_gp 2 16 (0 + wA)) (ky_gp2 20 16 (0 + wA)) ?_
        refine lv_lload_n hx hb dc_X8_text_109 rfl (lv_at hl 1 rfl) ?_
        refine ky_cVh (As := [.long (lN v8)]) (wr := []) F (hE.at hfr hS) hfr (mt_J4_append_f7089 l G q_1 va_3 (ky_cap 16 (0 + wA)) (0 + wA) f_3 0 (lN v8) H.size (ky_m2.cap (Or.inl rfl)) hf_3 (by omega)) kv_X8_76 ⟨⟨rfl, rfl⟩, Nat.le_of_ble_eq_true rfl, Nat.le_of_ble_eq_true rfl⟩ rfl hl.1 rfl (Nat.le_of_ble_eq_true rfl) ⟨Nat.le_trans (ky_gp 3 (ky_cap 16 (0 + wA)) (0 + wA + ky_szJ (lN v8))) (Nat.le_of_ble_eq_true rfl), Nat.le_trans (ky_gp2 54 (ky_cap 16 (0 + wA)) (0 + wA + ky_szJ (lN v8))) (Nat.le_of_ble_eq_true rfl)⟩ (va_recv hE.1 hP (ci := 6) (q0 := 0) rfl rfl) trivial hP hD hS hA [0, 1] [] rfl rfl (by decide) (by decide) (by decide) dc_X8_text_110 ?_
        rintro v9 ⟨va_4, f_4⟩ H locs ⟨rfl, hf_4⟩ hP hD hS - hz hk9
        have hP : va_P G.1 kcl [(q_1, .inr (6, [.ref va_4, .int (0), .int (0), .int (nI (0 + wA + ky_szJ (lN v8)))])), (va_4, .inl (G.2.1 0, ky_cap (ky_cap 16 (0 + wA)) (0 + wA + ky_szJ (lN v8)), .inl (f_4)))] H := hP
        have hD : va_D A [(q_1, .inr (6, [.ref va_4, .int (0), .int (0), .int (nI (0 + wA + ky_szJ (lN v8)))])), (va_4, .inl (G.2.1 0, ky_cap (ky_cap 16 (0 + wA)) (0 + wA + ky_szJ (lN v8)), .inl (f_4)))] := hD
        refine W.widen (k := 4) (n := 88) (ky_gp 3 (ky_cap 16 (0 + wA)) (0 + wA + ky_szJ (lN v8))) (ky_gp2 54 (ky_cap 16 (0 + wA)) (0 + wA + ky_szJ (lN v8))) ?_
        obtain ⟨k_5, hR_5, hZ_5⟩ := ky_s6 hE
        refine va_ldcS hx hb hown hR_5 dc_X8_text_113 ?_
        refine ky_cVh (As := [.ref k_5]) (wr := []) F (hE.at hfr hS) hfr (mt_J4_append_15ec4 l G q_1 va_4 (ky_cap (ky_cap 16 (0 + wA)) (0 + wA + ky_szJ (lN v8))) (0 + wA + ky_szJ (lN v8)) f_4 0 k_5 3 (fun j => ([42, 50, 94] : List Int32).getD j 0) H.size (ky_m2.cap (ky_m2.cap (Or.inl rfl))) hf_4 hZ_5 (by omega)) kv_X8_62 ⟨⟨rfl, rfl⟩, Nat.le_of_ble_eq_true rfl, Nat.le_of_ble_eq_true rfl⟩ rfl hl.1 rfl (Nat.le_of_ble_eq_true rfl) ⟨Nat.le_trans (ky_gp 4 (ky_cap (ky_cap 16 (0 + wA)) (0 + wA + ky_szJ (lN v8))) (0 + wA + ky_szJ (lN v8) + 3)) (Nat.le_of_ble_eq_true rfl), Nat.le_trans (ky_gp2 88 (ky_cap (ky_cap 16 (0 + wA)) (0 + wA + ky_szJ (lN v8))) (0 + wA + ky_szJ (lN v8) + 3)) (Nat.le_of_ble_eq_true rfl)⟩ (va_recv hE.1 hP (ci := 6) (q0 := 0) rfl rfl) trivial hP hD hS hA [0, 1] [] rfl rfl (by decide) (by decide) (by decide) dc_X8_text_115 ?_
        rintro v9 ⟨va_6, f_6⟩ H locs ⟨rfl, hf_6⟩ hP hD hS - hz hk9
        have hP : va_P G.1 kcl [(q_1, .inr (6, [.ref va_6, .int (0), .int (0), .int (nI (0 + wA + ky_szJ (lN v8) + 3))])), (va_6, .inl (G.2.1 0, ky_cap (ky_cap (ky_cap 16 (0 + wA)) (0 + wA + ky_szJ (lN v8))) (0 + wA + ky_szJ (lN v8) + 3), .inl (f_6)))] H := hP
        have hD : va_D A [(q_1, .inr (6, [.ref va_6, .int (0), .int (0), .int (nI (0 + wA + ky_szJ (lN v8) + 3))])), (va_6, .inl (G.2.1 0, ky_cap (ky_cap (ky_cap 16 (0 + wA)) (0 + wA + ky_szJ (lN v8))) (0 + wA + ky_szJ (lN v8) + 3), .inl (f_6)))] := hD
        refine W.widen (k := 5) (n := 122) (ky_gp 4 (ky_cap (ky_cap 16 (0 + wA)) (0 + wA + ky_szJ (lN v8))) (0 + wA + ky_szJ (lN v8) + 3)) (ky_gp2 88 (ky_cap (ky_cap 16 (0 + wA)) (0 + wA + ky_szJ (lN v8))) (0 + wA + ky_szJ (lN v8) + 3)) ?_
        refine lv_iload hx hb dc_X8_text_118 (lv_at hl 2 rfl) ?_
        refine ky_cVh (As := [.int (pw)]) (wr := []) F (hE.at hfr hS) hfr (mt_J4_append_bf812 l G q_1 va_6 (ky_cap (ky_cap (ky_cap 16 (0 + wA)) (0 + wA + ky_szJ (lN v8))) (0 + wA + ky_szJ (lN v8) + 3)) (0 + wA + ky_szJ (lN v8) + 3) f_6 0 pw H.size (ky_m2.cap (ky_m2.cap (ky_m2.cap (Or.inl rfl)))) hf_6 (by omega)) kv_X8_81 ⟨⟨rfl, rfl⟩, Nat.le_of_ble_eq_true rfl, Nat.le_of_ble_eq_true rfl⟩ rfl hl.1 rfl (Nat.le_of_ble_eq_true rfl) ⟨Nat.le_trans (ky_gp 5 (ky_cap (ky_cap (ky_cap 16 (0 + wA)) (0 + wA + ky_szJ (lN v8))) (0 + wA + ky_szJ (lN v8) + 3)) (0 + wA + ky_szJ (lN v8) + 3 + ky_szI pw)) (Nat.le_of_ble_eq_true rfl), Nat.le_trans (ky_gp2 122 (ky_cap (ky_cap (ky_cap 16 (0 + wA)) (0 + wA + ky_szJ (lN v8))) (0 + wA + ky_szJ (lN v8) + 3)) (0 + wA + ky_szJ (lN v8) + 3 + ky_szI pw)) (Nat.le_of_ble_eq_true rfl)⟩ (va_recv hE.1 hP (ci := 6) (q0 := 0) rfl rfl) trivial hP hD hS hA [0, 1] [] rfl rfl (by decide) (by decide) (by decide) dc_X8_text_120 ?_
        rintro v9 ⟨va_7, f_7⟩ H locs ⟨rfl, hf_7⟩ hP hD hS - hz hk9
        have hP : va_P G.1 kcl [(q_1, .inr (6, [.ref va_7, .int (0), .int (0), .int (nI (0 + wA + ky_szJ (lN v8) + 3 + ky_szI pw))])), (va_7, .inl (G.2.1 0, ky_cap (ky_cap (ky_cap (ky_cap 16 (0 + wA)) (0 + wA + ky_szJ (lN v8))) (0 + wA + ky_szJ (lN v8) + 3)) (0 + wA + ky_szJ (lN v8) + 3 + ky_szI pw), .inl (f_7)))] H := hP
        have hD : va_D A [(q_1, .inr (6, [.ref va_7, .int (0), .int (0), .int (nI (0 + wA + ky_szJ (lN v8) + 3 + ky_szI pw))])), (va_7, .inl (G.2.1 0, ky_cap (ky_cap (ky_cap (ky_cap 16 (0 + wA)) (0 + wA + ky_szJ (lN v8))) (0 + wA + ky_szJ (lN v8) + 3)) (0 + wA + ky_szJ (lN v8) + 3 + ky_szI pw), .inl (f_7)))] := hD
        refine W.widen (k := 6) (n := 156) (ky_gp 5 (ky_cap (ky_cap (ky_cap 16 (0 + wA)) (0 + wA + ky_szJ (lN v8))) (0 + wA + ky_szJ (lN v8) + 3)) (0 + wA + ky_szJ (lN v8) + 3 + ky_szI pw)) (ky_gp2 122 (ky_cap (ky_cap (ky_cap 16 (0 + wA)) (0 + wA + ky_szJ (lN v8))) (0 + wA + ky_szJ (lN v8) + 3)) (0 + wA + ky_szJ (lN v8) + 3 + ky_szI pw)) ?_
        refine ky_cVh (As := []) (wr := []) F (hE.at hfr hS) hfr (mt_J4_toString_0e30d l G q_1 va_7 (ky_cap (ky_cap (ky_cap (ky_cap 16 (0 + wA)) (0 + wA + ky_szJ (lN v8))) (0 + wA + ky_szJ (lN v8) + 3)) (0 + wA + ky_szJ (lN v8) + 3 + ky_szI pw)) (0 + wA + ky_szJ (lN v8) + 3 + ky_szI pw) f_7 0 H.size (ky_m2.le (ky_m2.cap (ky_m2.cap (ky_m2.cap (Or.inl rfl)))) (by omega)).1 (ky_m2.le34 (ky_m2.cap (ky_m2.cap (ky_m2.cap (ky_m2.cap (Or.inl rfl)))))) hf_7) kv_X8_70 ⟨⟨rfl, rfl⟩, Nat.le_of_ble_eq_true rfl, Nat.le_of_ble_eq_true rfl⟩ rfl hl.1 rfl (Nat.le_of_ble_eq_true rfl) ⟨Nat.le_of_ble_eq_true rfl, Nat.le_of_ble_eq_true rfl⟩ (va_recv hE.1 hP (ci := 6) (q0 := 0) rfl rfl) trivial hP hD hS hA [0, 1] [] rfl rfl (by decide) (by decide) (by decide) dc_X8_text_123 ?_
        rintro v9 ⟨z_8, y_8, g_8⟩ H locs ⟨rfl, hg_8⟩ hP hD hS - hz hk9
        have hP : va_P G.1 kcl [(q_1, .inr (6, [.ref va_7, .int (0), .int (0), .int (nI (0 + wA + ky_szJ (lN v8) + 3 + ky_szI pw))])), (va_7, .inl (G.2.1 0, ky_cap (ky_cap (ky_cap (ky_cap 16 (0 + wA)) (0 + wA + ky_szJ (lN v8))) (0 + wA + ky_szJ (lN v8) + 3)) (0 + wA + ky_szJ (lN v8) + 3 + ky_szI pw), .inl (f_7))), (z_8, .inr (7, [.ref y_8, .int (0), .int (0), .int (0)])), (y_8, .inl (G.2.1 0, 0 + wA + ky_szJ (lN v8) + 3 + ky_szI pw, .inl (g_8)))] H := hP
        have hD : va_D A [(q_1, .inr (6, [.ref va_7, .int (0), .int (0), .int (nI (0 + wA + ky_szJ (lN v8) + 3 + ky_szI pw))])), (va_7, .inl (G.2.1 0, ky_cap (ky_cap (ky_cap (ky_cap 16 (0 + wA)) (0 + wA + ky_szJ (lN v8))) (0 + wA + ky_szJ (lN v8) + 3)) (0 + wA + ky_szJ (lN v8) + 3 + ky_szI pw), .inl (f_7))), (z_8, .inr (7, [.ref y_8, .int (0), .int (0), .int (0)])), (y_8, .inl (G.2.1 0, 0 + wA + ky_szJ (lN v8) + 3 + ky_szI pw, .inl (g_8)))] := hD
        refine W.widen (k := 8) (n := 194) (by first | exact Nat.le_refl _ | omega) (by first | exact Nat.le_refl _ | omega) ?_
        have hP9 := hP.sub (ws' := [(z_8, .inr (7, [.ref y_8, .int (0), .int (0), .int (0)])), (y_8, .inl (G.2.1 0, 0 + wA + ky_szJ (lN v8) + 3 + ky_szI pw, .inl (g_8)))]) [2, 3] rfl
        have hD9 := hD.sub (ws' := [(z_8, .inr (7, [.ref y_8, .int (0), .int (0), .int (0)])), (y_8, .inl (G.2.1 0, 0 + wA + ky_szJ (lN v8) + 3 + ky_szI pw, .inl (g_8)))]) [2, 3] (by decide) rfl
        refine W.widen (k := 8) (n := 194) (Nat.le_of_ble_eq_true rfl) (Nat.le_of_ble_eq_true rfl) ?_
        exact W.aret (v := .ref z_8) hx hb hr (Or.inl ⟨_, rfl⟩) (Or.inr ⟨_, rfl⟩) (fun t ht hW => ⟨⟨_, (z_8, y_8, 0 + wA + ky_szJ (lN v8) + 3 + ky_szI pw, g_8), rfl, ⟨rfl, (by show 0 + wA + ky_szJ (lN v8) + 3 + ky_szI pw ≤ 34; omega), hg_8⟩, by rw [ht]; exact hP9, hD9, trivial⟩, hS.F ht⟩) hS.2.2 dc_X8_text_126
      · skip
        refine lv_lload_n hx hb dc_X8_text_86 rfl (lv_at hl 1 rfl) ?_
        refine lv_ldc2 (v := 2) hx hb hown (hts _ kw_6_168) dc_X8_text_87 ?_
        refine lv_ldiv hx hb dc_X8_text_90 (by decide) ?_
        rw [show (((lN v8) / ((2 : Int64))) : Int64) = lN (v8 / 2) from ky_half (by omega)]
        refine lv_lstore_n (lv' := [(2, .long (lN (v8 / 2))), (1, .ref ah), (4, .int (pw))]) hx hb dc_X8_text_91 rfl hl (by decide) rfl (fun ls hl => ?_)
        refine lv_iinc (v := (pw) + 1) (lv' := [(4, .int ((pw) + 1)), (2, .long (lN (v8 / 2))), (1, .ref ah)]) hx hb dc_X8_text_92 hl (k := 2) rfl rfl (by decide) rfl (fun ls hl => ?_)
        refine lv_goto (tgt := 76) hx hb dc_X8_text_95 (by decide) ?_
        have he := ky_even (by omega) c_0
        refine W.widen (k := 0) (n := 0) (by first | exact Nat.le_refl _ | omega | exact Nat.zero_le _) (by first | exact Nat.le_refl _ | omega | exact Nat.zero_le _) ?_
        exact ih ah wA gA (v8 / 2) ((pw) + 1) hkA hwA (by omega) (by omega) (by omega) _ _ (hP.sub (ws' := []) [] rfl) (hD.sub (ws' := []) [] (by decide) rfl) hS  _ (lv_sub hl [2, 1, 0] rfl)
set_option linter.constructorNameAsVariable false in
set_option maxHeartbeats 4000000 in
set_option maxRecDepth 100000 in
theorem mt_X8_text (l : Launch) (G : ky_G) (b0 : Nat) (v0 : Int32 × Int64) (sz : Nat)  : Met l my_X8_text (.code my_X8_text prog_11_method_15_code 5 (Option.some (Jvm.ClassFile.FieldType.object "java/lang/String")) :: ky_B) { frames := 6, cells := 8, slots := 194, locals := 151 } (ky_P G [.ref b0] ([]) sz (fun H => ky_It G b0 v0 H)) (ky_Q (S := Nat × Nat × Nat × (Nat → Int32)) G (va_A ([]) sz) (fun v u => v = some (.ref u.1) ∧ u.2.2.1 ≤ 34 ∧ ky_fit u.2.2.2) (fun u => ky_WZ G u) (fun _ _ => True)) (8) (194) (va_A ([]) sz) := by
  refine ky_start (by decide) (Nat.le_of_ble_eq_true rfl) (fun p e s m below meth c F hE A hAe hsz hA hfr hP hD hS hX ls hl => ?_)
  obtain ⟨hx, hb, hml, hown, hr, hlocks, hts⟩ := id F
  have hl : lv_has ls 5 [(0, .ref b0)] := hl
  have hP : va_P G.1 kcl [] s.heap := hP
  have hD : va_D A [] := hD
  have hna : ¬ A b0 := by rw [hAe]; exact ky_nfresh hX.low
  refine lv_aload_n hx hb dc_X8_text_0 rfl (lv_at hl 0 rfl) ?_
  have hI0 := ky_ro hX hna hS
  refine va_get (D := G.1) (ci := 4) (v := .int (v0.1)) (C := RX8) (T := TX8) (N := 2) hx hb hts ki_X8 hown hE.1 hI0 0 rfl rfl 0 (by decide) (hts _ kw_6_10) (fun _ h9 => h9) rfl dc_X8_text_1 ?_
  refine lv_if_ne (tgt := 12) hx hb dc_X8_text_4 (by decide) (fun c_0 => ?_) (fun c_0 => ?_)
  · skip
    obtain ⟨k_1, hR_1, hZ_1⟩ := ky_s3 hE
    refine va_ldcS hx hb hown hR_1 dc_X8_text_12 ?_
    refine lv_astore_n (lv' := [(1, .ref k_1), (0, .ref b0)]) hx hb dc_X8_text_14 rfl hl (by decide) rfl (fun ls hl => ?_)
    refine lv_aload_n hx hb dc_X8_text_15 rfl (lv_at hl 1 rfl) ?_
    have hI0 := ky_ro hX hna hS
    refine va_get (D := G.1) (ci := 4) (v := .long (v0.2)) (C := RX8) (T := TX8) (N := 2) hx hb hts ki_X8 hown hE.1 hI0 0 rfl rfl 1 (by decide) (hts _ kw_6_12) (fun _ h9 => h9) rfl dc_X8_text_16 ?_
    refine lv_lconst (v := 0) hx hb dc_X8_text_19 (by decide) ?_
    refine W.lcmp hx hb dc_X8_text_20 ?_
    refine lv_if_eq (tgt := 31) hx hb dc_X8_text_21 (by decide) (fun c_2 => ?_) (fun c_2 => ?_)
    · skip
      refine va_new (ci := 6) (fs := [.null, .int (0), .int (0), .int (0)]) (C := RJ4) (T := TJ4) (N := 4) hx hb hts ki_J4 tyJ4 tyJ4_ok hown (hts _ kw_7_55) (hts _ kw_1_45) (hts _ kw_1_4) hE.1 hP hD hS hA rfl (fun j hj => by rcases (show j = 0 ∨ j = 1 ∨ j = 2 ∨ j = 3 by omega) with rfl | rfl | rfl | rfl <;> rfl) (Nat.le_of_ble_eq_true rfl) (Nat.le_of_ble_eq_true rfl) dc_X8_text_31 (fun q_3 H hP hD hS => ?_)
      have hP : va_P G.1 kcl [(q_3, .inr (6, [.null, .int (0), .int (0), .int (0)]))] H := hP
      have hD : va_D A [(q_3, .inr (6, [.null, .int (0), .int (0), .int (0)]))] := hD
      refine W.widen (k := 1) (n := 4) (Nat.le_refl _) (Nat.le_refl _) ?_
      refine lv_dup hx hb dc_X8_text_34 rfl ?_
      refine ky_cIh (As := []) (wr := []) F (hE.at hfr hS) hfr (mt_J4_init_da8c8 l G q_3 H.size ) kI_X8_61 ⟨⟨rfl, rfl⟩, Nat.le_of_ble_eq_true rfl, Nat.le_of_ble_eq_true rfl⟩ rfl hl.1 rfl (Nat.le_of_ble_eq_true rfl) ⟨Nat.le_of_ble_eq_true rfl, Nat.le_of_ble_eq_true rfl⟩ trivial hP hD hS hA [0] [] rfl rfl (by decide) (by decide) (by decide) dc_X8_text_35 ?_
      rintro v9 va_4 H locs rfl hP hD hS - hz hk9
      have hP : va_P G.1 kcl [(q_3, .inr (6, [.ref va_4, .int (0), .int (0), .int (nI (0))])), (va_4, .inl (G.2.1 0, 16, .inl (fun _ => 0)))] H := hP
      have hD : va_D A [(q_3, .inr (6, [.ref va_4, .int (0), .int (0), .int (nI (0))])), (va_4, .inl (G.2.1 0, 16, .inl (fun _ => 0)))] := hD
      refine W.widen (k := 2) (n := 20) (by first | exact Nat.le_refl _ | omega) (by first | exact Nat.le_refl _ | omega) ?_
      refine lv_aload_n hx hb dc_X8_text_38 rfl (lv_at hl 0 rfl) ?_
      refine ky_cVh (As := [.ref k_1]) (wr := []) F (hE.at hfr hS) hfr (mt_J4_append_15ec4 l G q_3 va_4 16 0 (fun _ => 0) 0 k_1 1 (fun j => ([45] : List Int32).getD j 0) H.size (Or.inl rfl) ky_fit0 hZ_1 (by omega)) kv_X8_62 ⟨⟨rfl, rfl⟩, Nat.le_of_ble_eq_true rfl, Nat.le_of_ble_eq_true rfl⟩ rfl hl.1 rfl (Nat.le_of_ble_eq_true rfl) ⟨Nat.le_trans (ky_gp 2 16 (0 + 1)) (Nat.le_of_ble_eq_true rfl), Nat.le_trans (ky_gp2 20 16 (0 + 1)) (Nat.le_of_ble_eq_true rfl)⟩ (va_recv hE.1 hP (ci := 6) (q0 := 0) rfl rfl) trivial hP hD hS hA [0, 1] [] rfl rfl (by decide) (by decide) (by decide) dc_X8_text_39 ?_
      rintro v9 ⟨va_5, f_5⟩ H locs ⟨rfl, hf_5⟩ hP hD hS - hz hk9
      have hP : va_P G.1 kcl [(q_3, .inr (6, [.ref va_5, .int (0), .int (0), .int (nI (0 + 1))])), (va_5, .inl (G.2.1 0, ky_cap 16 (0 + 1), .inl (f_5)))] H := hP
      have hD : va_D A [(q_3, .inr (6, [.ref va_5, .int (0), .int (0), .int (nI (0 + 1))])), (va_5, .inl (G.2.1 0, ky_cap 16 (0 + 1), .inl (f_5)))] := hD
      refine W.widen (k := 3) (n := 54) (ky_gp 2 16 (0 + 1)) (ky_gp2 20 16 (0 + 1)) ?_
      refine lv_aload_n hx hb dc_X8_text_42 rfl (lv_at hl 1 rfl) ?_
      have hI0 := ky_ro hX hna hS
      refine va_get (D := G.1) (ci := 4) (v := .long (v0.2)) (C := RX8) (T := TX8) (N := 2) hx hb hts ki_X8 hown hE.1 hI0 0 rfl rfl 1 (by decide) (hts _ kw_6_12) (fun _ h9 => h9) rfl dc_X8_text_43 ?_
      refine lv_lconst (v := 0) hx hb dc_X8_text_46 (by decide) ?_
      refine W.lcmp hx hb dc_X8_text_47 ?_
      refine lv_if_ne (tgt := 56) hx hb dc_X8_text_48 (by decide) (fun c_6 => absurd (c_2) c_6) (fun _ => ?_)
      obtain ⟨k_7, hR_7, hZ_7⟩ := ky_s4 hE
      refine va_ldcS hx hb hown hR_7 dc_X8_text_51 ?_
      refine lv_goto (tgt := 58) hx hb dc_X8_text_53 (by decide) ?_
      refine ky_cVh (As := [.ref k_7]) (wr := []) F (hE.at hfr hS) hfr (mt_J4_append_15ec4 l G q_3 va_5 (ky_cap 16 (0 + 1)) (0 + 1) f_5 0 k_7 1 (fun j => ([48] : List Int32).getD j 0) H.size (ky_m2.cap (Or.inl rfl)) hf_5 hZ_7 (by omega)) kv_X8_62 ⟨⟨rfl, rfl⟩, Nat.le_of_ble_eq_true rfl, Nat.le_of_ble_eq_true rfl⟩ rfl hl.1 rfl (Nat.le_of_ble_eq_true rfl) ⟨Nat.le_trans (ky_gp 3 (ky_cap 16 (0 + 1)) (0 + 1 + 1)) (Nat.le_of_ble_eq_true rfl), Nat.le_trans (ky_gp2 54 (ky_cap 16 (0 + 1)) (0 + 1 + 1)) (Nat.le_of_ble_eq_true rfl)⟩ (va_recv hE.1 hP (ci := 6) (q0 := 0) rfl rfl) trivial hP hD hS hA [0, 1] [] rfl rfl (by decide) (by decide) (by decide) dc_X8_text_58 ?_
      rintro v9 ⟨va_8, f_8⟩ H locs ⟨rfl, hf_8⟩ hP hD hS - hz hk9
      have hP : va_P G.1 kcl [(q_3, .inr (6, [.ref va_8, .int (0), .int (0), .int (nI (0 + 1 + 1))])), (va_8, .inl (G.2.1 0, ky_cap (ky_cap 16 (0 + 1)) (0 + 1 + 1), .inl (f_8)))] H := hP
      have hD : va_D A [(q_3, .inr (6, [.ref va_8, .int (0), .int (0), .int (nI (0 + 1 + 1))])), (va_8, .inl (G.2.1 0, ky_cap (ky_cap 16 (0 + 1)) (0 + 1 + 1), .inl (f_8)))] := hD
      refine W.widen (k := 4) (n := 88) (ky_gp 3 (ky_cap 16 (0 + 1)) (0 + 1 + 1)) (ky_gp2 54 (ky_cap 16 (0 + 1)) (0 + 1 + 1)) ?_
      refine ky_cVh (As := []) (wr := []) F (hE.at hfr hS) hfr (mt_J4_toString_0e30d l G q_3 va_8 (ky_cap (ky_cap 16 (0 + 1)) (0 + 1 + 1)) (0 + 1 + 1) f_8 0 H.size (ky_m2.le (ky_m2.cap (Or.inl rfl)) (by omega)).1 (ky_m2.le34 (ky_m2.cap (ky_m2.cap (Or.inl rfl)))) hf_8) kv_X8_70 ⟨⟨rfl, rfl⟩, Nat.le_of_ble_eq_true rfl, Nat.le_of_ble_eq_true rfl⟩ rfl hl.1 rfl (Nat.le_of_ble_eq_true rfl) ⟨Nat.le_of_ble_eq_true rfl, Nat.le_of_ble_eq_true rfl⟩ (va_recv hE.1 hP (ci := 6) (q0 := 0) rfl rfl) trivial hP hD hS hA [0, 1] [] rfl rfl (by decide) (by decide) (by decide) dc_X8_text_61 ?_
      rintro v9 ⟨z_9, y_9, g_9⟩ H locs ⟨rfl, hg_9⟩ hP hD hS - hz hk9
      have hP : va_P G.1 kcl [(q_3, .inr (6, [.ref va_8, .int (0), .int (0), .int (nI (0 + 1 + 1))])), (va_8, .inl (G.2.1 0, ky_cap (ky_cap 16 (0 + 1)) (0 + 1 + 1), .inl (f_8))), (z_9, .inr (7, [.ref y_9, .int (0), .int (0), .int (0)])), (y_9, .inl (G.2.1 0, 0 + 1 + 1, .inl (g_9)))] H := hP
      have hD : va_D A [(q_3, .inr (6, [.ref va_8, .int (0), .int (0), .int (nI (0 + 1 + 1))])), (va_8, .inl (G.2.1 0, ky_cap (ky_cap 16 (0 + 1)) (0 + 1 + 1), .inl (f_8))), (z_9, .inr (7, [.ref y_9, .int (0), .int (0), .int (0)])), (y_9, .inl (G.2.1 0, 0 + 1 + 1, .inl (g_9)))] := hD
      refine W.widen (k := 6) (n := 126) (by first | exact Nat.le_refl _ | omega) (by first | exact Nat.le_refl _ | omega) ?_
      have hP9 := hP.sub (ws' := [(z_9, .inr (7, [.ref y_9, .int (0), .int (0), .int (0)])), (y_9, .inl (G.2.1 0, 0 + 1 + 1, .inl (g_9)))]) [2, 3] rfl
      have hD9 := hD.sub (ws' := [(z_9, .inr (7, [.ref y_9, .int (0), .int (0), .int (0)])), (y_9, .inl (G.2.1 0, 0 + 1 + 1, .inl (g_9)))]) [2, 3] (by decide) rfl
      refine W.widen (k := 8) (n := 194) (Nat.le_of_ble_eq_true rfl) (Nat.le_of_ble_eq_true rfl) ?_
      exact W.aret (v := .ref z_9) hx hb hr (Or.inl ⟨_, rfl⟩) (Or.inr ⟨_, rfl⟩) (fun t ht hW => ⟨⟨_, (z_9, y_9, 0 + 1 + 1, g_9), rfl, ⟨rfl, (by show 0 + 1 + 1 ≤ 34; omega), hg_9⟩, by rw [ht]; exact hP9, hD9, trivial⟩, hS.F ht⟩) hS.2.2 dc_X8_text_64
    · skip
      refine lv_aload_n hx hb dc_X8_text_24 rfl (lv_at hl 1 rfl) ?_
      have hI0 := ky_ro hX hna hS
      refine ky_cV1 (As := []) F (hE.at hfr hS) (mt_X8_isEndless l G (b0) (v0) ) kv_X8_45 ⟨⟨rfl, rfl⟩, by decide, by decide⟩ rfl hl.1 rfl (Nat.le_of_ble_eq_true rfl) ⟨Nat.le_of_ble_eq_true rfl, Nat.le_of_ble_eq_true rfl⟩ (va_recv hE.1 hI0 (ci := 4) (q0 := 0) rfl rfl) hI0 dc_X8_text_25 ?_
      refine lv_if_eq (tgt := 65) hx hb dc_X8_text_28 (by decide) (fun c_3 => ?_) (fun c_3 => ?_)
      · skip
        refine lv_aload_n hx hb dc_X8_text_65 rfl (lv_at hl 1 rfl) ?_
        have hI0 := ky_ro hX hna hS
        refine ky_cV1 (As := []) F (hE.at hfr hS) (mt_X8_many l G (b0) (v0) ) kv_X8_39 ⟨⟨rfl, rfl⟩, by decide, by decide⟩ rfl hl.1 rfl (Nat.le_of_ble_eq_true rfl) ⟨Nat.le_of_ble_eq_true rfl, Nat.le_of_ble_eq_true rfl⟩ (va_recv hE.1 hI0 (ci := 4) (q0 := 0) rfl rfl) hI0 dc_X8_text_66 ?_
        obtain ⟨v9, hv1, hv2, ev⟩ := ky_many_pos c_2
        rw [show ((fn_X8_many v0) : Int64) = lN v9 from ev]
        refine lv_lstore_n (lv' := [(2, .long (lN v9)), (1, .ref k_1), (0, .ref b0)]) hx hb dc_X8_text_69 rfl hl (by decide) rfl (fun ls hl => ?_)
        refine lv_aload_n hx hb dc_X8_text_70 rfl (lv_at hl 2 rfl) ?_
        have hI0 := ky_ro hX hna hS
        refine ky_cV1 (As := []) F (hE.at hfr hS) (mt_X8_power l G (b0) (v0) ) kv_X8_36 ⟨⟨rfl, rfl⟩, by decide, by decide⟩ rfl hl.1 rfl (Nat.le_of_ble_eq_true rfl) ⟨Nat.le_of_ble_eq_true rfl, Nat.le_of_ble_eq_true rfl⟩ (va_recv hE.1 hI0 (ci := 4) (q0 := 0) rfl rfl) hI0 dc_X8_text_71 ?_
        refine lv_istore (lv' := [(4, .int (fn_X8_power v0)), (2, .long (lN v9)), (1, .ref k_1), (0, .ref b0)]) hx hb dc_X8_text_74 hl (by decide) rfl (fun ls hl => ?_)
        refine W.widen (k := 0) (n := 0) (by first | exact Nat.le_refl _ | omega | exact Nat.zero_le _) (by first | exact Nat.le_refl _ | omega | exact Nat.zero_le _) ?_
        exact ml_X8_text_L76 (b0 := b0) (v0 := v0) F hE hA hfr   (v9) k_1 1 (fun j => ([45] : List Int32).getD j 0) v9 (fn_X8_power v0) hZ_1 (by decide) (Nat.le_refl _) hv1 hv2 _ _ (hP.sub (ws' := []) [] rfl) (hD.sub (ws' := []) [] (by decide) rfl) hS  _ (lv_sub hl [2, 1, 0] rfl)
      · skip
        refine va_new (ci := 6) (fs := [.null, .int (0), .int (0), .int (0)]) (C := RJ4) (T := TJ4) (N := 4) hx hb hts ki_J4 tyJ4 tyJ4_ok hown (hts _ kw_7_55) (hts _ kw_1_45) (hts _ kw_1_4) hE.1 hP hD hS hA rfl (fun j hj => by rcases (show j = 0 ∨ j = 1 ∨ j = 2 ∨ j = 3 by omega) with rfl | rfl | rfl | rfl <;> rfl) (Nat.le_of_ble_eq_true rfl) (Nat.le_of_ble_eq_true rfl) dc_X8_text_31 (fun q_4 H hP hD hS => ?_)
        have hP : va_P G.1 kcl [(q_4, .inr (6, [.null, .int (0), .int (0), .int (0)]))] H := hP
        have hD : va_D A [(q_4, .inr (6, [.null, .int (0), .int (0), .int (0)]))] := hD
        refine W.widen (k := 1) (n := 4) (Nat.le_refl _) (Nat.le_refl _) ?_
        refine lv_dup hx hb dc_X8_text_34 rfl ?_
        refine ky_cIh (As := []) (wr := []) F (hE.at hfr hS) hfr (mt_J4_init_da8c8 l G q_4 H.size ) kI_X8_61 ⟨⟨rfl, rfl⟩, Nat.le_of_ble_eq_true rfl, Nat.le_of_ble_eq_true rfl⟩ rfl hl.1 rfl (Nat.le_of_ble_eq_true rfl) ⟨Nat.le_of_ble_eq_true rfl, Nat.le_of_ble_eq_true rfl⟩ trivial hP hD hS hA [0] [] rfl rfl (by decide) (by decide) (by decide) dc_X8_text_35 ?_
        rintro v9 va_5 H locs rfl hP hD hS - hz hk9
        have hP : va_P G.1 kcl [(q_4, .inr (6, [.ref va_5, .int (0), .int (0), .int (nI (0))])), (va_5, .inl (G.2.1 0, 16, .inl (fun _ => 0)))] H := hP
        have hD : va_D A [(q_4, .inr (6, [.ref va_5, .int (0), .int (0), .int (nI (0))])), (va_5, .inl (G.2.1 0, 16, .inl (fun _ => 0)))] := hD
        refine W.widen (k := 2) (n := 20) (by first | exact Nat.le_refl _ | omega) (by first | exact Nat.le_refl _ | omega) ?_
        refine lv_aload_n hx hb dc_X8_text_38 rfl (lv_at hl 0 rfl) ?_
        refine ky_cVh (As := [.ref k_1]) (wr := []) F (hE.at hfr hS) hfr (mt_J4_append_15ec4 l G q_4 va_5 16 0 (fun _ => 0) 0 k_1 1 (fun j => ([45] : List Int32).getD j 0) H.size (Or.inl rfl) ky_fit0 hZ_1 (by omega)) kv_X8_62 ⟨⟨rfl, rfl⟩, Nat.le_of_ble_eq_true rfl, Nat.le_of_ble_eq_true rfl⟩ rfl hl.1 rfl (Nat.le_of_ble_eq_true rfl) ⟨Nat.le_trans (ky_gp 2 16 (0 + 1)) (Nat.le_of_ble_eq_true rfl), Nat.le_trans (ky_gp2 20 16 (0 + 1)) (Nat.le_of_ble_eq_true rfl)⟩ (va_recv hE.1 hP (ci := 6) (q0 := 0) rfl rfl) trivial hP hD hS hA [0, 1] [] rfl rfl (by decide) (by decide) (by decide) dc_X8_text_39 ?_
        rintro v9 ⟨va_6, f_6⟩ H locs ⟨rfl, hf_6⟩ hP hD hS - hz hk9
        have hP : va_P G.1 kcl [(q_4, .inr (6, [.ref va_6, .int (0), .int (0), .int (nI (0 + 1))])), (va_6, .inl (G.2.1 0, ky_cap 16 (0 + 1), .inl (f_6)))] H := hP
        have hD : va_D A [(q_4, .inr (6, [.ref va_6, .int (0), .int (0), .int (nI (0 + 1))])), (va_6, .inl (G.2.1 0, ky_cap 16 (0 + 1), .inl (f_6)))] := hD
        refine W.widen (k := 3) (n := 54) (ky_gp 2 16 (0 + 1)) (ky_gp2 20 16 (0 + 1)) ?_
        refine lv_aload_n hx hb dc_X8_text_42 rfl (lv_at hl 1 rfl) ?_
        have hI0 := ky_ro hX hna hS
        refine va_get (D := G.1) (ci := 4) (v := .long (v0.2)) (C := RX8) (T := TX8) (N := 2) hx hb hts ki_X8 hown hE.1 hI0 0 rfl rfl 1 (by decide) (hts _ kw_6_12) (fun _ h9 => h9) rfl dc_X8_text_43 ?_
        refine lv_lconst (v := 0) hx hb dc_X8_text_46 (by decide) ?_
        refine W.lcmp hx hb dc_X8_text_47 ?_
        refine lv_if_ne (tgt := 56) hx hb dc_X8_text_48 (by decide) (fun _ => ?_) (fun c_7 => absurd c_7 (c_2))
        obtain ⟨k_8, hR_8, hZ_8⟩ := ky_s5 hE
        refine va_ldcS hx hb hown hR_8 dc_X8_text_56 ?_
        refine ky_cVh (As := [.ref k_8]) (wr := []) F (hE.at hfr hS) hfr (mt_J4_append_15ec4 l G q_4 va_6 (ky_cap 16 (0 + 1)) (0 + 1) f_6 0 k_8 1 (fun j => ([69] : List Int32).getD j 0) H.size (ky_m2.cap (Or.inl rfl)) hf_6 hZ_8 (by omega)) kv_X8_62 ⟨⟨rfl, rfl⟩, Nat.le_of_ble_eq_true rfl, Nat.le_of_ble_eq_true rfl⟩ rfl hl.1 rfl (Nat.le_of_ble_eq_true rfl) ⟨Nat.le_trans (ky_gp 3 (ky_cap 16 (0 + 1)) (0 + 1 + 1)) (Nat.le_of_ble_eq_true rfl), Nat.le_trans (ky_gp2 54 (ky_cap 16 (0 + 1)) (0 + 1 + 1)) (Nat.le_of_ble_eq_true rfl)⟩ (va_recv hE.1 hP (ci := 6) (q0 := 0) rfl rfl) trivial hP hD hS hA [0, 1] [] rfl rfl (by decide) (by decide) (by decide) dc_X8_text_58 ?_
        rintro v9 ⟨va_9, f_9⟩ H locs ⟨rfl, hf_9⟩ hP hD hS - hz hk9
        have hP : va_P G.1 kcl [(q_4, .inr (6, [.ref va_9, .int (0), .int (0), .int (nI (0 + 1 + 1))])), (va_9, .inl (G.2.1 0, ky_cap (ky_cap 16 (0 + 1)) (0 + 1 + 1), .inl (f_9)))] H := hP
        have hD : va_D A [(q_4, .inr (6, [.ref va_9, .int (0), .int (0), .int (nI (0 + 1 + 1))])), (va_9, .inl (G.2.1 0, ky_cap (ky_cap 16 (0 + 1)) (0 + 1 + 1), .inl (f_9)))] := hD
        refine W.widen (k := 4) (n := 88) (ky_gp 3 (ky_cap 16 (0 + 1)) (0 + 1 + 1)) (ky_gp2 54 (ky_cap 16 (0 + 1)) (0 + 1 + 1)) ?_
        refine ky_cVh (As := []) (wr := []) F (hE.at hfr hS) hfr (mt_J4_toString_0e30d l G q_4 va_9 (ky_cap (ky_cap 16 (0 + 1)) (0 + 1 + 1)) (0 + 1 + 1) f_9 0 H.size (ky_m2.le (ky_m2.cap (Or.inl rfl)) (by omega)).1 (ky_m2.le34 (ky_m2.cap (ky_m2.cap (Or.inl rfl)))) hf_9) kv_X8_70 ⟨⟨rfl, rfl⟩, Nat.le_of_ble_eq_true rfl, Nat.le_of_ble_eq_true rfl⟩ rfl hl.1 rfl (Nat.le_of_ble_eq_true rfl) ⟨Nat.le_of_ble_eq_true rfl, Nat.le_of_ble_eq_true rfl⟩ (va_recv hE.1 hP (ci := 6) (q0 := 0) rfl rfl) trivial hP hD hS hA [0, 1] [] rfl rfl (by decide) (by decide) (by decide) dc_X8_text_61 ?_
        rintro v9 ⟨z_10, y_10, g_10⟩ H locs ⟨rfl, hg_10⟩ hP hD hS - hz hk9
        have hP : va_P G.1 kcl [(q_4, .inr (6, [.ref va_9, .int (0), .int (0), .int (nI (0 + 1 + 1))])), (va_9, .inl (G.2.1 0, ky_cap (ky_cap 16 (0 + 1)) (0 + 1 + 1), .inl (f_9))), (z_10, .inr (7, [.ref y_10, .int (0), .int (0), .int (0)])), (y_10, .inl (G.2.1 0, 0 + 1 + 1, .inl (g_10)))] H := hP
        have hD : va_D A [(q_4, .inr (6, [.ref va_9, .int (0), .int (0), .int (nI (0 + 1 + 1))])), (va_9, .inl (G.2.1 0, ky_cap (ky_cap 16 (0 + 1)) (0 + 1 + 1), .inl (f_9))), (z_10, .inr (7, [.ref y_10, .int (0), .int (0), .int (0)])), (y_10, .inl (G.2.1 0, 0 + 1 + 1, .inl (g_10)))] := hD
        refine W.widen (k := 6) (n := 126) (by first | exact Nat.le_refl _ | omega) (by first | exact Nat.le_refl _ | omega) ?_
        have hP9 := hP.sub (ws' := [(z_10, .inr (7, [.ref y_10, .int (0), .int (0), .int (0)])), (y_10, .inl (G.2.1 0, 0 + 1 + 1, .inl (g_10)))]) [2, 3] rfl
        have hD9 := hD.sub (ws' := [(z_10, .inr (7, [.ref y_10, .int (0), .int (0), .int (0)])), (y_10, .inl (G.2.1 0, 0 + 1 + 1, .inl (g_10)))]) [2, 3] (by decide) rfl
        refine W.widen (k := 8) (n := 194) (Nat.le_of_ble_eq_true rfl) (Nat.le_of_ble_eq_true rfl) ?_
        exact W.aret (v := .ref z_10) hx hb hr (Or.inl ⟨_, rfl⟩) (Or.inr ⟨_, rfl⟩) (fun t ht hW => ⟨⟨_, (z_10, y_10, 0 + 1 + 1, g_10), rfl, ⟨rfl, (by show 0 + 1 + 1 ≤ 34; omega), hg_10⟩, by rw [ht]; exact hP9, hD9, trivial⟩, hS.F ht⟩) hS.2.2 dc_X8_text_64
  · skip
    obtain ⟨k_1, hR_1, hZ_1⟩ := ky_s2 hE
    refine va_ldcS hx hb hown hR_1 dc_X8_text_7 ?_
    refine lv_goto (tgt := 14) hx hb dc_X8_text_9 (by decide) ?_
    refine lv_astore_n (lv' := [(1, .ref k_1), (0, .ref b0)]) hx hb dc_X8_text_14 rfl hl (by decide) rfl (fun ls hl => ?_)
    refine lv_aload_n hx hb dc_X8_text_15 rfl (lv_at hl 1 rfl) ?_
    have hI0 := ky_ro hX hna hS
    refine va_get (D := G.1) (ci := 4) (v := .long (v0.2)) (C := RX8) (T := TX8) (N := 2) hx hb hts ki_X8 hown hE.1 hI0 0 rfl rfl 1 (by decide) (hts _ kw_6_12) (fun _ h9 => h9) rfl dc_X8_text_16 ?_
    refine lv_lconst (v := 0) hx hb dc_X8_text_19 (by decide) ?_
    refine W.lcmp hx hb dc_X8_text_20 ?_
    refine lv_if_eq (tgt := 31) hx hb dc_X8_text_21 (by decide) (fun c_2 => ?_) (fun c_2 => ?_)
    · skip
      refine va_new (ci := 6) (fs := [.null, .int (0), .int (0), .int (0)]) (C := RJ4) (T := TJ4) (N := 4) hx hb hts ki_J4 tyJ4 tyJ4_ok hown (hts _ kw_7_55) (hts _ kw_1_45) (hts _ kw_1_4) hE.1 hP hD hS hA rfl (fun j hj => by rcases (show j = 0 ∨ j = 1 ∨ j = 2 ∨ j = 3 by omega) with rfl | rfl | rfl | rfl <;> rfl) (Nat.le_of_ble_eq_true rfl) (Nat.le_of_ble_eq_true rfl) dc_X8_text_31 (fun q_3 H hP hD hS => ?_)
      have hP : va_P G.1 kcl [(q_3, .inr (6, [.null, .int (0), .int (0), .int (0)]))] H := hP
      have hD : va_D A [(q_3, .inr (6, [.null, .int (0), .int (0), .int (0)]))] := hD
      refine W.widen (k := 1) (n := 4) (Nat.le_refl _) (Nat.le_refl _) ?_
      refine lv_dup hx hb dc_X8_text_34 rfl ?_
      refine ky_cIh (As := []) (wr := []) F (hE.at hfr hS) hfr (mt_J4_init_da8c8 l G q_3 H.size ) kI_X8_61 ⟨⟨rfl, rfl⟩, Nat.le_of_ble_eq_true rfl, Nat.le_of_ble_eq_true rfl⟩ rfl hl.1 rfl (Nat.le_of_ble_eq_true rfl) ⟨Nat.le_of_ble_eq_true rfl, Nat.le_of_ble_eq_true rfl⟩ trivial hP hD hS hA [0] [] rfl rfl (by decide) (by decide) (by decide) dc_X8_text_35 ?_
      rintro v9 va_4 H locs rfl hP hD hS - hz hk9
      have hP : va_P G.1 kcl [(q_3, .inr (6, [.ref va_4, .int (0), .int (0), .int (nI (0))])), (va_4, .inl (G.2.1 0, 16, .inl (fun _ => 0)))] H := hP
      have hD : va_D A [(q_3, .inr (6, [.ref va_4, .int (0), .int (0), .int (nI (0))])), (va_4, .inl (G.2.1 0, 16, .inl (fun _ => 0)))] := hD
      refine W.widen (k := 2) (n := 20) (by first | exact Nat.le_refl _ | omega) (by first | exact Nat.le_refl _ | omega) ?_
      refine lv_aload_n hx hb dc_X8_text_38 rfl (lv_at hl 0 rfl) ?_
      refine ky_cVh (As := [.ref k_1]) (wr := []) F (hE.at hfr hS) hfr (mt_J4_append_15ec4 l G q_3 va_4 16 0 (fun _ => 0) 0 k_1 0 (fun j => ([] : List Int32).getD j 0) H.size (Or.inl rfl) ky_fit0 hZ_1 (by omega)) kv_X8_62 ⟨⟨rfl, rfl⟩, Nat.le_of_ble_eq_true rfl, Nat.le_of_ble_eq_true rfl⟩ rfl hl.1 rfl (Nat.le_of_ble_eq_true rfl) ⟨Nat.le_trans (ky_gp 2 16 (0 + 0)) (Nat.le_of_ble_eq_true rfl), Nat.le_trans (ky_gp2 20 16 (0 + 0)) (Nat.le_of_ble_eq_true rfl)⟩ (va_recv hE.1 hP (ci := 6) (q0 := 0) rfl rfl) trivial hP hD hS hA [0, 1] [] rfl rfl (by decide) (by decide) (by decide) dc_X8_text_39 ?_
      rintro v9 ⟨va_5, f_5⟩ H locs ⟨rfl, hf_5⟩ hP hD hS - hz hk9
      have hP : va_P G.1 kcl [(q_3, .inr (6, [.ref va_5, .int (0), .int (0), .int (nI (0 + 0))])), (va_5, .inl (G.2.1 0, ky_cap 16 (0 + 0), .inl (f_5)))] H := hP
      have hD : va_D A [(q_3, .inr (6, [.ref va_5, .int (0), .int (0), .int (nI (0 + 0))])), (va_5, .inl (G.2.1 0, ky_cap 16 (0 + 0), .inl (f_5)))] := hD
      refine W.widen (k := 3) (n := 54) (ky_gp 2 16 (0 + 0)) (ky_gp2 20 16 (0 + 0)) ?_
      refine lv_aload_n hx hb dc_X8_text_42 rfl (lv_at hl 1 rfl) ?_
      have hI0 := ky_ro hX hna hS
      refine va_get (D := G.1) (ci := 4) (v := .long (v0.2)) (C := RX8) (T := TX8) (N := 2) hx hb hts ki_X8 hown hE.1 hI0 0 rfl rfl 1 (by decide) (hts _ kw_6_12) (fun _ h9 => h9) rfl dc_X8_text_43 ?_
      refine lv_lconst (v := 0) hx hb dc_X8_text_46 (by decide) ?_
      refine W.lcmp hx hb dc_X8_text_47 ?_
      refine lv_if_ne (tgt := 56) hx hb dc_X8_text_48 (by decide) (fun c_6 => absurd (c_2) c_6) (fun _ => ?_)
      obtain ⟨k_7, hR_7, hZ_7⟩ := ky_s4 hE
      refine va_ldcS hx hb hown hR_7 dc_X8_text_51 ?_
      refine lv_goto (tgt := 58) hx hb dc_X8_text_53 (by decide) ?_
      refine ky_cVh (As := [.ref k_7]) (wr := []) F (hE.at hfr hS) hfr (mt_J4_append_15ec4 l G q_3 va_5 (ky_cap 16 (0 + 0)) (0 + 0) f_5 0 k_7 1 (fun j => ([48] : List Int32).getD j 0) H.size (ky_m2.cap (Or.inl rfl)) hf_5 hZ_7 (by omega)) kv_X8_62 ⟨⟨rfl, rfl⟩, Nat.le_of_ble_eq_true rfl, Nat.le_of_ble_eq_true rfl⟩ rfl hl.1 rfl (Nat.le_of_ble_eq_true rfl) ⟨Nat.le_trans (ky_gp 3 (ky_cap 16 (0 + 0)) (0 + 0 + 1)) (Nat.le_of_ble_eq_true rfl), Nat.le_trans (ky_gp2 54 (ky_cap 16 (0 + 0)) (0 + 0 + 1)) (Nat.le_of_ble_eq_true rfl)⟩ (va_recv hE.1 hP (ci := 6) (q0 := 0) rfl rfl) trivial hP hD hS hA [0, 1] [] rfl rfl (by decide) (by decide) (by decide) dc_X8_text_58 ?_
      rintro v9 ⟨va_8, f_8⟩ H locs ⟨rfl, hf_8⟩ hP hD hS - hz hk9
      have hP : va_P G.1 kcl [(q_3, .inr (6, [.ref va_8, .int (0), .int (0), .int (nI (0 + 0 + 1))])), (va_8, .inl (G.2.1 0, ky_cap (ky_cap 16 (0 + 0)) (0 + 0 + 1), .inl (f_8)))] H := hP
      have hD : va_D A [(q_3, .inr (6, [.ref va_8, .int (0), .int (0), .int (nI (0 + 0 + 1))])), (va_8, .inl (G.2.1 0, ky_cap (ky_cap 16 (0 + 0)) (0 + 0 + 1), .inl (f_8)))] := hD
      refine W.widen (k := 4) (n := 88) (ky_gp 3 (ky_cap 16 (0 + 0)) (0 + 0 + 1)) (ky_gp2 54 (ky_cap 16 (0 + 0)) (0 + 0 + 1)) ?_
      refine ky_cVh (As := []) (wr := []) F (hE.at hfr hS) hfr (mt_J4_toString_0e30d l G q_3 va_8 (ky_cap (ky_cap 16 (0 + 0)) (0 + 0 + 1)) (0 + 0 + 1) f_8 0 H.size (ky_m2.le (ky_m2.cap (Or.inl rfl)) (by omega)).1 (ky_m2.le34 (ky_m2.cap (ky_m2.cap (Or.inl rfl)))) hf_8) kv_X8_70 ⟨⟨rfl, rfl⟩, Nat.le_of_ble_eq_true rfl, Nat.le_of_ble_eq_true rfl⟩ rfl hl.1 rfl (Nat.le_of_ble_eq_true rfl) ⟨Nat.le_of_ble_eq_true rfl, Nat.le_of_ble_eq_true rfl⟩ (va_recv hE.1 hP (ci := 6) (q0 := 0) rfl rfl) trivial hP hD hS hA [0, 1] [] rfl rfl (by decide) (by decide) (by decide) dc_X8_text_61 ?_
      rintro v9 ⟨z_9, y_9, g_9⟩ H locs ⟨rfl, hg_9⟩ hP hD hS - hz hk9
      have hP : va_P G.1 kcl [(q_3, .inr (6, [.ref va_8, .int (0), .int (0), .int (nI (0 + 0 + 1))])), (va_8, .inl (G.2.1 0, ky_cap (ky_cap 16 (0 + 0)) (0 + 0 + 1), .inl (f_8))), (z_9, .inr (7, [.ref y_9, .int (0), .int (0), .int (0)])), (y_9, .inl (G.2.1 0, 0 + 0 + 1, .inl (g_9)))] H := hP
      have hD : va_D A [(q_3, .inr (6, [.ref va_8, .int (0), .int (0), .int (nI (0 + 0 + 1))])), (va_8, .inl (G.2.1 0, ky_cap (ky_cap 16 (0 + 0)) (0 + 0 + 1), .inl (f_8))), (z_9, .inr (7, [.ref y_9, .int (0), .int (0), .int (0)])), (y_9, .inl (G.2.1 0, 0 + 0 + 1, .inl (g_9)))] := hD
      refine W.widen (k := 6) (n := 126) (by first | exact Nat.le_refl _ | omega) (by first | exact Nat.le_refl _ | omega) ?_
      have hP9 := hP.sub (ws' := [(z_9, .inr (7, [.ref y_9, .int (0), .int (0), .int (0)])), (y_9, .inl (G.2.1 0, 0 + 0 + 1, .inl (g_9)))]) [2, 3] rfl
      have hD9 := hD.sub (ws' := [(z_9, .inr (7, [.ref y_9, .int (0), .int (0), .int (0)])), (y_9, .inl (G.2.1 0, 0 + 0 + 1, .inl (g_9)))]) [2, 3] (by decide) rfl
      refine W.widen (k := 8) (n := 194) (Nat.le_of_ble_eq_true rfl) (Nat.le_of_ble_eq_true rfl) ?_
      exact W.aret (v := .ref z_9) hx hb hr (Or.inl ⟨_, rfl⟩) (Or.inr ⟨_, rfl⟩) (fun t ht hW => ⟨⟨_, (z_9, y_9, 0 + 0 + 1, g_9), rfl, ⟨rfl, (by show 0 + 0 + 1 ≤ 34; omega), hg_9⟩, by rw [ht]; exact hP9, hD9, trivial⟩, hS.F ht⟩) hS.2.2 dc_X8_text_64
    · skip
      refine lv_aload_n hx hb dc_X8_text_24 rfl (lv_at hl 1 rfl) ?_
      have hI0 := ky_ro hX hna hS
      refine ky_cV1 (As := []) F (hE.at hfr hS) (mt_X8_isEndless l G (b0) (v0) ) kv_X8_45 ⟨⟨rfl, rfl⟩, by decide, by decide⟩ rfl hl.1 rfl (Nat.le_of_ble_eq_true rfl) ⟨Nat.le_of_ble_eq_true rfl, Nat.le_of_ble_eq_true rfl⟩ (va_recv hE.1 hI0 (ci := 4) (q0 := 0) rfl rfl) hI0 dc_X8_text_25 ?_
      refine lv_if_eq (tgt := 65) hx hb dc_X8_text_28 (by decide) (fun c_3 => ?_) (fun c_3 => ?_)
      · skip
        refine lv_aload_n hx hb dc_X8_text_65 rfl (lv_at hl 1 rfl) ?_
        have hI0 := ky_ro hX hna hS
        refine ky_cV1 (As := []) F (hE.at hfr hS) (mt_X8_many l G (b0) (v0) ) kv_X8_39 ⟨⟨rfl, rfl⟩, by decide, by decide⟩ rfl hl.1 rfl (Nat.le_of_ble_eq_true rfl) ⟨Nat.le_of_ble_eq_true rfl, Nat.le_of_ble_eq_true rfl⟩ (va_recv hE.1 hI0 (ci := 4) (q0 := 0) rfl rfl) hI0 dc_X8_text_66 ?_
        obtain ⟨v9, hv1, hv2, ev⟩ := ky_many_pos c_2
        rw [show ((fn_X8_many v0) : Int64) = lN v9 from ev]
        refine lv_lstore_n (lv' := [(2, .long (lN v9)), (1, .ref k_1), (0, .ref b0)]) hx hb dc_X8_text_69 rfl hl (by decide) rfl (fun ls hl => ?_)
        refine lv_aload_n hx hb dc_X8_text_70 rfl (lv_at hl 2 rfl) ?_
        have hI0 := ky_ro hX hna hS
        refine ky_cV1 (As := []) F (hE.at hfr hS) (mt_X8_power l G (b0) (v0) ) kv_X8_36 ⟨⟨rfl, rfl⟩, by decide, by decide⟩ rfl hl.1 rfl (Nat.le_of_ble_eq_true rfl) ⟨Nat.le_of_ble_eq_true rfl, Nat.le_of_ble_eq_true rfl⟩ (va_recv hE.1 hI0 (ci := 4) (q0 := 0) rfl rfl) hI0 dc_X8_text_71 ?_
        refine lv_istore (lv' := [(4, .int (fn_X8_power v0)), (2, .long (lN v9)), (1, .ref k_1), (0, .ref b0)]) hx hb dc_X8_text_74 hl (by decide) rfl (fun ls hl => ?_)
        refine W.widen (k := 0) (n := 0) (by first | exact Nat.le_refl _ | omega | exact Nat.zero_le _) (by first | exact Nat.le_refl _ | omega | exact Nat.zero_le _) ?_
        exact ml_X8_text_L76 (b0 := b0) (v0 := v0) F hE hA hfr   (v9) k_1 0 (fun j => ([] : List Int32).getD j 0) v9 (fn_X8_power v0) hZ_1 (by decide) (Nat.le_refl _) hv1 hv2 _ _ (hP.sub (ws' := []) [] rfl) (hD.sub (ws' := []) [] (by decide) rfl) hS  _ (lv_sub hl [2, 1, 0] rfl)
      · skip
        refine va_new (ci := 6) (fs := [.null, .int (0), .int (0), .int (0)]) (C := RJ4) (T := TJ4) (N := 4) hx hb hts ki_J4 tyJ4 tyJ4_ok hown (hts _ kw_7_55) (hts _ kw_1_45) (hts _ kw_1_4) hE.1 hP hD hS hA rfl (fun j hj => by rcases (show j = 0 ∨ j = 1 ∨ j = 2 ∨ j = 3 by omega) with rfl | rfl | rfl | rfl <;> rfl) (Nat.le_of_ble_eq_true rfl) (Nat.le_of_ble_eq_true rfl) dc_X8_text_31 (fun q_4 H hP hD hS => ?_)
        have hP : va_P G.1 kcl [(q_4, .inr (6, [.null, .int (0), .int (0), .int (0)]))] H := hP
        have hD : va_D A [(q_4, .inr (6, [.null, .int (0), .int (0), .int (0)]))] := hD
        refine W.widen (k := 1) (n := 4) (Nat.le_refl _) (Nat.le_refl _) ?_
        refine lv_dup hx hb dc_X8_text_34 rfl ?_
        refine ky_cIh (As := []) (wr := []) F (hE.at hfr hS) hfr (mt_J4_init_da8c8 l G q_4 H.size ) kI_X8_61 ⟨⟨rfl, rfl⟩, Nat.le_of_ble_eq_true rfl, Nat.le_of_ble_eq_true rfl⟩ rfl hl.1 rfl (Nat.le_of_ble_eq_true rfl) ⟨Nat.le_of_ble_eq_true rfl, Nat.le_of_ble_eq_true rfl⟩ trivial hP hD hS hA [0] [] rfl rfl (by decide) (by decide) (by decide) dc_X8_text_35 ?_
        rintro v9 va_5 H locs rfl hP hD hS - hz hk9
        have hP : va_P G.1 kcl [(q_4, .inr (6, [.ref va_5, .int (0), .int (0), .int (nI (0))])), (va_5, .inl (G.2.1 0, 16, .inl (fun _ => 0)))] H := hP
        have hD : va_D A [(q_4, .inr (6, [.ref va_5, .int (0), .int (0), .int (nI (0))])), (va_5, .inl (G.2.1 0, 16, .inl (fun _ => 0)))] := hD
        refine W.widen (k := 2) (n := 20) (by first | exact Nat.le_refl _ | omega) (by first | exact Nat.le_refl _ | omega) ?_
        refine lv_aload_n hx hb dc_X8_text_38 rfl (lv_at hl 0 rfl) ?_
        refine ky_cVh (As := [.ref k_1]) (wr := []) F (hE.at hfr hS) hfr (mt_J4_append_15ec4 l G q_4 va_5 16 0 (fun _ => 0) 0 k_1 0 (fun j => ([] : List Int32).getD j 0) H.size (Or.inl rfl) ky_fit0 hZ_1 (by omega)) kv_X8_62 ⟨⟨rfl, rfl⟩, Nat.le_of_ble_eq_true rfl, Nat.le_of_ble_eq_true rfl⟩ rfl hl.1 rfl (Nat.le_of_ble_eq_true rfl) ⟨Nat.le_trans (ky_gp 2 16 (0 + 0)) (Nat.le_of_ble_eq_true rfl), Nat.le_trans (ky_gp2 20 16 (0 + 0)) (Nat.le_of_ble_eq_true rfl)⟩ (va_recv hE.1 hP (ci := 6) (q0 := 0) rfl rfl) trivial hP hD hS hA [0, 1] [] rfl rfl (by decide) (by decide) (by decide) dc_X8_text_39 ?_
        rintro v9 ⟨va_6, f_6⟩ H locs ⟨rfl, hf_6⟩ hP hD hS - hz hk9
        have hP : va_P G.1 kcl [(q_4, .inr (6, [.ref va_6, .int (0), .int (0), .int (nI (0 + 0))])), (va_6, .inl (G.2.1 0, ky_cap 16 (0 + 0), .inl (f_6)))] H := hP
        have hD : va_D A [(q_4, .inr (6, [.ref va_6, .int (0), .int (0), .int (nI (0 + 0))])), (va_6, .inl (G.2.1 0, ky_cap 16 (0 + 0), .inl (f_6)))] := hD
        refine W.widen (k := 3) (n := 54) (ky_gp 2 16 (0 + 0)) (ky_gp2 20 16 (0 + 0)) ?_
        refine lv_aload_n hx hb dc_X8_text_42 rfl (lv_at hl 1 rfl) ?_
        have hI0 := ky_ro hX hna hS
        refine va_get (D := G.1) (ci := 4) (v := .long (v0.2)) (C := RX8) (T := TX8) (N := 2) hx hb hts ki_X8 hown hE.1 hI0 0 rfl rfl 1 (by decide) (hts _ kw_6_12) (fun _ h9 => h9) rfl dc_X8_text_43 ?_
        refine lv_lconst (v := 0) hx hb dc_X8_text_46 (by decide) ?_
        refine W.lcmp hx hb dc_X8_text_47 ?_
        refine lv_if_ne (tgt := 56) hx hb dc_X8_text_48 (by decide) (fun _ => ?_) (fun c_7 => absurd c_7 (c_2))
        obtain ⟨k_8, hR_8, hZ_8⟩ := ky_s5 hE
        refine va_ldcS hx hb hown hR_8 dc_X8_text_56 ?_
        refine ky_cVh (As := [.ref k_8]) (wr := []) F (hE.at hfr hS) hfr (mt_J4_append_15ec4 l G q_4 va_6 (ky_cap 16 (0 + 0)) (0 + 0) f_6 0 k_8 1 (fun j => ([69] : List Int32).getD j 0) H.size (ky_m2.cap (Or.inl rfl)) hf_6 hZ_8 (by omega)) kv_X8_62 ⟨⟨rfl, rfl⟩, Nat.le_of_ble_eq_true rfl, Nat.le_of_ble_eq_true rfl⟩ rfl hl.1 rfl (Nat.le_of_ble_eq_true rfl) ⟨Nat.le_trans (ky_gp 3 (ky_cap 16 (0 + 0)) (0 + 0 + 1)) (Nat.le_of_ble_eq_true rfl), Nat.le_trans (ky_gp2 54 (ky_cap 16 (0 + 0)) (0 + 0 + 1)) (Nat.le_of_ble_eq_true rfl)⟩ (va_recv hE.1 hP (ci := 6) (q0 := 0) rfl rfl) trivial hP hD hS hA [0, 1] [] rfl rfl (by decide) (by decide) (by decide) dc_X8_text_58 ?_
        rintro v9 ⟨va_9, f_9⟩ H locs ⟨rfl, hf_9⟩ hP hD hS - hz hk9
        have hP : va_P G.1 kcl [(q_4, .inr (6, [.ref va_9, .int (0), .int (0), .int (nI (0 + 0 + 1))])), (va_9, .inl (G.2.1 0, ky_cap (ky_cap 16 (0 + 0)) (0 + 0 + 1), .inl (f_9)))] H := hP
        have hD : va_D A [(q_4, .inr (6, [.ref va_9, .int (0), .int (0), .int (nI (0 + 0 + 1))])), (va_9, .inl (G.2.1 0, ky_cap (ky_cap 16 (0 + 0)) (0 + 0 + 1), .inl (f_9)))] := hD
        refine W.widen (k := 4) (n := 88) (ky_gp 3 (ky_cap 16 (0 + 0)) (0 + 0 + 1)) (ky_gp2 54 (ky_cap 16 (0 + 0)) (0 + 0 + 1)) ?_
        refine ky_cVh (As := []) (wr := []) F (hE.at hfr hS) hfr (mt_J4_toString_0e30d l G q_4 va_9 (ky_cap (ky_cap 16 (0 + 0)) (0 + 0 + 1)) (0 + 0 + 1) f_9 0 H.size (ky_m2.le (ky_m2.cap (Or.inl rfl)) (by omega)).1 (ky_m2.le34 (ky_m2.cap (ky_m2.cap (Or.inl rfl)))) hf_9) kv_X8_70 ⟨⟨rfl, rfl⟩, Nat.le_of_ble_eq_true rfl, Nat.le_of_ble_eq_true rfl⟩ rfl hl.1 rfl (Nat.le_of_ble_eq_true rfl) ⟨Nat.le_of_ble_eq_true rfl, Nat.le_of_ble_eq_true rfl⟩ (va_recv hE.1 hP (ci := 6) (q0 := 0) rfl rfl) trivial hP hD hS hA [0, 1] [] rfl rfl (by decide) (by decide) (by decide) dc_X8_text_61 ?_
        rintro v9 ⟨z_10, y_10, g_10⟩ H locs ⟨rfl, hg_10⟩ hP hD hS - hz hk9
        have hP : va_P G.1 kcl [(q_4, .inr (6, [.ref va_9, .int (0), .int (0), .int (nI (0 + 0 + 1))])), (va_9, .inl (G.2.1 0, ky_cap (ky_cap 16 (0 + 0)) (0 + 0 + 1), .inl (f_9))), (z_10, .inr (7, [.ref y_10, .int (0), .int (0), .int (0)])), (y_10, .inl (G.2.1 0, 0 + 0 + 1, .inl (g_10)))] H := hP
        have hD : va_D A [(q_4, .inr (6, [.ref va_9, .int (0), .int (0), .int (nI (0 + 0 + 1))])), (va_9, .inl (G.2.1 0, ky_cap (ky_cap 16 (0 + 0)) (0 + 0 + 1), .inl (f_9))), (z_10, .inr (7, [.ref y_10, .int (0), .int (0), .int (0)])), (y_10, .inl (G.2.1 0, 0 + 0 + 1, .inl (g_10)))] := hD
        refine W.widen (k := 6) (n := 126) (by first | exact Nat.le_refl _ | omega) (by first | exact Nat.le_refl _ | omega) ?_
        have hP9 := hP.sub (ws' := [(z_10, .inr (7, [.ref y_10, .int (0), .int (0), .int (0)])), (y_10, .inl (G.2.1 0, 0 + 0 + 1, .inl (g_10)))]) [2, 3] rfl
        have hD9 := hD.sub (ws' := [(z_10, .inr (7, [.ref y_10, .int (0), .int (0), .int (0)])), (y_10, .inl (G.2.1 0, 0 + 0 + 1, .inl (g_10)))]) [2, 3] (by decide) rfl
        refine W.widen (k := 8) (n := 194) (Nat.le_of_ble_eq_true rfl) (Nat.le_of_ble_eq_true rfl) ?_
        exact W.aret (v := .ref z_10) hx hb hr (Or.inl ⟨_, rfl⟩) (Or.inr ⟨_, rfl⟩) (fun t ht hW => ⟨⟨_, (z_10, y_10, 0 + 0 + 1, g_10), rfl, ⟨rfl, (by show 0 + 0 + 1 ≤ 34; omega), hg_10⟩, by rw [ht]; exact hP9, hD9, trivial⟩, hS.F ht⟩) hS.2.2 dc_X8_text_64
end
section
set_option linter.constructorNameAsVariable false in
set_option maxHeartbeats 4000000 in
set_option maxRecDepth 100000 in
theorem mt_X9_whole (l : Launch) (G : ky_G) (mo : Nat) (cs : Nat) (N : Nat → Prop) (w : ky_MV) (f : Nat → Option Nat) (a1 : Int32) (a2 : Int32) (sz : Nat) (h1 : vp_in (a1) 6) : Met l my_X9_whole (.code my_X9_whole prog_10_method_46_code 3 (Option.some (Jvm.ClassFile.FieldType.object "java/lang/String")) :: ky_B) { frames := 6, cells := 6, slots := 126, locals := 151 } (ky_P G [.ref mo, .int (a1), .int (a2)] (ky_WM G mo cs w f) sz (fun H => ky_IT G mo cs N f w.2.2.2.2 H)) (ky_Q (S := Nat × Nat × Nat × (Nat → Int32)) G (va_A (ky_WM G mo cs w f) sz) (fun v u => v = some (.ref u.1) ∧ u.2.2.1 ≤ 34 ∧ ky_fit u.2.2.2) (fun u => ky_WM G mo cs w f ++ ky_WZ G u) (fun _ H => ky_IT G mo cs N f w.2.2.2.2 H)) (6) (126) (va_A (ky_WM G mo cs w f) sz) := by
  refine ky_start (by decide) (Nat.le_of_ble_eq_true rfl) (fun p e s m below meth c F hE A hAe hsz hA hfr hP hD hS hX ls hl => ?_)
  obtain ⟨hx, hb, hml, hown, hr, hlocks, hts⟩ := id F
  have hl : lv_has ls 3 [(0, .ref mo), (1, .int (a1)), (2, .int (a2))] := hl
  have hP : va_P G.1 kcl [(mo, .inr (5, [.int (w.1), .ref cs, .int (w.2.1), .int (w.2.2.1), .int (w.2.2.2.1)])), (cs, .inl (G.2.1 3, 6, .inr (.inr (.inr (.inr (f))))))] s.heap := hP
  have hD : va_D A [(mo, .inr (5, [.int (w.1), .ref cs, .int (w.2.1), .int (w.2.2.1), .int (w.2.2.2.1)])), (cs, .inl (G.2.1 3, 6, .inr (.inr (.inr (.inr (f))))))] := hD
  have hIT0 := hX
  refine va_new (ci := 6) (fs := [.null, .int (0), .int (0), .int (0)]) (C := RJ4) (T := TJ4) (N := 4) hx hb hts ki_J4 tyJ4 tyJ4_ok hown (hts _ kw_7_116) (hts _ kw_1_45) (hts _ kw_1_4) hE.1 hP hD hS hA rfl (fun j hj => by rcases (show j = 0 ∨ j = 1 ∨ j = 2 ∨ j = 3 by omega) with rfl | rfl | rfl | rfl <;> rfl) (Nat.le_of_ble_eq_true rfl) (Nat.le_of_ble_eq_true rfl) dc_X9_whole_0 (fun q_0 H hP hD hS => ?_)
  have hP : va_P G.1 kcl [(mo, .inr (5, [.int (w.1), .ref cs, .int (w.2.1), .int (w.2.2.1), .int (w.2.2.2.1)])), (cs, .inl (G.2.1 3, 6, .inr (.inr (.inr (.inr (f)))))), (q_0, .inr (6, [.null, .int (0), .int (0), .int (0)]))] H := hP
  have hD : va_D A [(mo, .inr (5, [.int (w.1), .ref cs, .int (w.2.1), .int (w.2.2.1), .int (w.2.2.2.1)])), (cs, .inl (G.2.1 3, 6, .inr (.inr (.inr (.inr (f)))))), (q_0, .inr (6, [.null, .int (0), .int (0), .int (0)]))] := hD
  refine W.widen (k := 1) (n := 4) (Nat.le_refl _) (Nat.le_refl _) ?_
  refine lv_dup hx hb dc_X9_whole_3 rfl ?_
  refine ky_cIh (As := []) (wr := [(mo, .inr (5, [.int (w.1), .ref cs, .int (w.2.1), .int (w.2.2.1), .int (w.2.2.2.1)])), (cs, .inl (G.2.1 3, 6, .inr (.inr (.inr (.inr (f))))))]) F (hE.at hfr hS) hfr (mt_J4_init_da8c8 l G q_0 H.size ) kI_X9_187 ⟨⟨rfl, rfl⟩, Nat.le_of_ble_eq_true rfl, Nat.le_of_ble_eq_true rfl⟩ rfl hl.1 rfl (Nat.le_of_ble_eq_true rfl) ⟨Nat.le_of_ble_eq_true rfl, Nat.le_of_ble_eq_true rfl⟩ trivial hP hD hS hA [2] [0, 1] rfl rfl (by decide) (by decide) (by decide) dc_X9_whole_4 ?_
  rintro v9 va_1 H locs rfl hP hD hS - hz hk9
  have hP : va_P G.1 kcl [(mo, .inr (5, [.int (w.1), .ref cs, .int (w.2.1), .int (w.2.2.1), .int (w.2.2.2.1)])), (cs, .inl (G.2.1 3, 6, .inr (.inr (.inr (.inr (f)))))), (q_0, .inr (6, [.ref va_1, .int (0), .int (0), .int (nI (0))])), (va_1, .inl (G.2.1 0, 16, .inl (fun _ => 0)))] H := hP
  have hD : va_D A [(mo, .inr (5, [.int (w.1), .ref cs, .int (w.2.1), .int (w.2.2.1), .int (w.2.2.2.1)])), (cs, .inl (G.2.1 3, 6, .inr (.inr (.inr (.inr (f)))))), (q_0, .inr (6, [.ref va_1, .int (0), .int (0), .int (nI (0))])), (va_1, .inl (G.2.1 0, 16, .inl (fun _ => 0)))] := hD
  refine W.widen (k := 2) (n := 20) (by first | exact Nat.le_refl _ | omega) (by first | exact Nat.le_refl _ | omega) ?_
  obtain ⟨k_2, hR_2, hZ_2⟩ := ky_s7 hE
  refine va_ldcS hx hb hown hR_2 dc_X9_whole_7 ?_
  refine ky_cVh (As := [.ref k_2]) (wr := [(mo, .inr (5, [.int (w.1), .ref cs, .int (w.2.1), .int (w.2.2.1), .int (w.2.2.2.1)])), (cs, .inl (G.2.1 3, 6, .inr (.inr (.inr (.inr (f))))))]) F (hE.at hfr hS) hfr (mt_J4_append_15ec4 l G q_0 va_1 16 0 (fun _ => 0) 0 k_2 0 (fun j => ([] : List Int32).getD j 0) H.size (Or.inl rfl) ky_fit0 hZ_2 (by omega)) kv_X9_188 ⟨⟨rfl, rfl⟩, Nat.le_of_ble_eq_true rfl, Nat.le_of_ble_eq_true rfl⟩ rfl hl.1 rfl (Nat.le_of_ble_eq_true rfl) ⟨Nat.le_trans (ky_gp 2 16 (0 + 0)) (Nat.le_of_ble_eq_true rfl), Nat.le_trans (ky_gp2 20 16 (0 + 0)) (Nat.le_of_ble_eq_true rfl)⟩ (va_recv hE.1 hP (ci := 6) (q0 := 2) rfl rfl) trivial hP hD hS hA [2, 3] [0, 1] rfl rfl (by decide) (by decide) (by decide) dc_X9_whole_9 ?_
  rintro v9 ⟨va_3, f_3⟩ H locs ⟨rfl, hf_3⟩ hP hD hS - hz hk9
  have hP : va_P G.1 kcl [(mo, .inr (5, [.int (w.1), .ref cs, .int (w.2.1), .int (w.2.2.1), .int (w.2.2.2.1)])), (cs, .inl (G.2.1 3, 6, .inr (.inr (.inr (.inr (f)))))), (q_0, .inr (6, [.ref va_3, .int (0), .int (0), .int (nI (0 + 0))])), (va_3, .inl (G.2.1 0, ky_cap 16 (0 + 0), .inl (f_3)))] H := hP
  have hD : va_D A [(mo, .inr (5, [.int (w.1), .ref cs, .int (w.2.1), .int (w.2.2.1), .int (w.2.2.2.1)])), (cs, .inl (G.2.1 3, 6, .inr (.inr (.inr (.inr (f)))))), (q_0, .inr (6, [.ref va_3, .int (0), .int (0), .int (nI (0 + 0))])), (va_3, .inl (G.2.1 0, ky_cap 16 (0 + 0), .inl (f_3)))] := hD
  refine W.widen (k := 3) (n := 54) (ky_gp 2 16 (0 + 0)) (ky_gp2 20 16 (0 + 0)) ?_
  refine lv_aload_n hx hb dc_X9_whole_12 rfl (lv_at hl 0 rfl) ?_
  refine va_get (D := G.1) (ci := 5) (v := .ref cs) (C := RX9) (T := TX9) (N := 5) hx hb hts ki_X9 hown hE.1 hP 0 rfl rfl 1 (by decide) (hts _ kw_6_20) (fun _ h9 => h9) rfl dc_X9_whole_13 ?_
  refine lv_iload_n hx hb dc_X9_whole_16 rfl (lv_at hl 1 rfl) ?_
  have hv_4 : vp_in (a1) 6 := h1
  have hIT := hIT0.ro hAe hS
  refine va_aldq hx hb hE.1 hP 1 3 rfl rfl hv_4 dc_X9_whole_17 ?_
  obtain ⟨b_4, hb_4, hI_4, ho_4⟩ := hIT.2 _ (ky_i6 hv_4)
  rw [ky_rf hb_4]
  have hX_4 : ky_It G b_4 ((w.2.2.2.2) (a1).toNatClampNeg) s.heap := by obtain ⟨b9, e9, i9, -⟩ := hIT0.2 _ (ky_i6 hv_4); have z9 : b9 = b_4 := Option.some.inj (e9.symm.trans hb_4); exact z9 ▸ i9
  refine lv_iload_n hx hb dc_X9_whole_18 rfl (lv_at hl 2 rfl) ?_
  have hI_4 := ky_ro2 hX_4 ho_4 hAe hS
  refine ky_cV1 (As := [.int (a2)]) F (hE.at hfr hS) (mt_X8_rounded l G (b_4) (((w.2.2.2.2) (a1).toNatClampNeg)) (a2)) kv_X9_177 ⟨⟨rfl, rfl⟩, by decide, by decide⟩ rfl hl.1 rfl (Nat.le_of_ble_eq_true rfl) ⟨Nat.le_of_ble_eq_true rfl, Nat.le_of_ble_eq_true rfl⟩ (va_recv hE.1 hI_4 (ci := 4) (q0 := 0) rfl rfl) hI_4 dc_X9_whole_19 ?_
  generalize ((fn_X8_rounded (a2) ((w.2.2.2.2) (a1).toNatClampNeg)) : Int64) = j_5
  have hsj := ky_szJ_le j_5
  refine ky_cVh (As := [.long (j_5)]) (wr := [(mo, .inr (5, [.int (w.1), .ref cs, .int (w.2.1), .int (w.2.2.1), .int (w.2.2.2.1)])), (cs, .inl (G.2.1 3, 6, .inr (.inr (.inr (.inr (f))))))]) F (hE.at hfr hS) hfr (mt_J4_append_f7089 l G q_0 va_3 (ky_cap 16 (0 + 0)) (0 + 0) f_3 0 j_5 H.size (ky_m2.cap (Or.inl rfl)) hf_3 (by omega)) kv_X9_192 ⟨⟨rfl, rfl⟩, Nat.le_of_ble_eq_true rfl, Nat.le_of_ble_eq_true rfl⟩ rfl hl.1 rfl (Nat.le_of_ble_eq_true rfl) ⟨Nat.le_trans (ky_gp 3 (ky_cap 16 (0 + 0)) (0 + 0 + ky_szJ j_5)) (Nat.le_of_ble_eq_true rfl), Nat.le_trans (ky_gp2 54 (ky_cap 16 (0 + 0)) (0 + 0 + ky_szJ j_5)) (Nat.le_of_ble_eq_true rfl)⟩ (va_recv hE.1 hP (ci := 6) (q0 := 2) rfl rfl) trivial hP hD hS hA [2, 3] [0, 1] rfl rfl (by decide) (by decide) (by decide) dc_X9_whole_22 ?_
  rintro v9 ⟨va_6, f_6⟩ H locs ⟨rfl, hf_6⟩ hP hD hS - hz hk9
  have hP : va_P G.1 kcl [(mo, .inr (5, [.int (w.1), .ref cs, .int (w.2.1), .int (w.2.2.1), .int (w.2.2.2.1)])), (cs, .inl (G.2.1 3, 6, .inr (.inr (.inr (.inr (f)))))), (q_0, .inr (6, [.ref va_6, .int (0), .int (0), .int (nI (0 + 0 + ky_szJ j_5))])), (va_6, .inl (G.2.1 0, ky_cap (ky_cap 16 (0 + 0)) (0 + 0 + ky_szJ j_5), .inl (f_6)))] H := hP
  have hD : va_D A [(mo, .inr (5, [.int (w.1), .ref cs, .int (w.2.1), .int (w.2.2.1), .int (w.2.2.2.1)])), (cs, .inl (G.2.1 3, 6, .inr (.inr (.inr (.inr (f)))))), (q_0, .inr (6, [.ref va_6, .int (0), .int (0), .int (nI (0 + 0 + ky_szJ j_5))])), (va_6, .inl (G.2.1 0, ky_cap (ky_cap 16 (0 + 0)) (0 + 0 + ky_szJ j_5), .inl (f_6)))] := hD
  refine W.widen (k := 4) (n := 88) (ky_gp 3 (ky_cap 16 (0 + 0)) (0 + 0 + ky_szJ j_5)) (ky_gp2 54 (ky_cap 16 (0 + 0)) (0 + 0 + ky_szJ j_5)) ?_
  refine ky_cVh (As := []) (wr := [(mo, .inr (5, [.int (w.1), .ref cs, .int (w.2.1), .int (w.2.2.1), .int (w.2.2.2.1)])), (cs, .inl (G.2.1 3, 6, .inr (.inr (.inr (.inr (f))))))]) F (hE.at hfr hS) hfr (mt_J4_toString_0e30d l G q_0 va_6 (ky_cap (ky_cap 16 (0 + 0)) (0 + 0 + ky_szJ j_5)) (0 + 0 + ky_szJ j_5) f_6 0 H.size (ky_m2.le (ky_m2.cap (Or.inl rfl)) (by omega)).1 (ky_m2.le34 (ky_m2.cap (ky_m2.cap (Or.inl rfl)))) hf_6) kv_X9_195 ⟨⟨rfl, rfl⟩, Nat.le_of_ble_eq_true rfl, Nat.le_of_ble_eq_true rfl⟩ rfl hl.1 rfl (Nat.le_of_ble_eq_true rfl) ⟨Nat.le_of_ble_eq_true rfl, Nat.le_of_ble_eq_true rfl⟩ (va_recv hE.1 hP (ci := 6) (q0 := 2) rfl rfl) trivial hP hD hS hA [2, 3] [0, 1] rfl rfl (by decide) (by decide) (by decide) dc_X9_whole_25 ?_
  rintro v9 ⟨z_7, y_7, g_7⟩ H locs ⟨rfl, hg_7⟩ hP hD hS - hz hk9
  have hP : va_P G.1 kcl [(mo, .inr (5, [.int (w.1), .ref cs, .int (w.2.1), .int (w.2.2.1), .int (w.2.2.2.1)])), (cs, .inl (G.2.1 3, 6, .inr (.inr (.inr (.inr (f)))))), (q_0, .inr (6, [.ref va_6, .int (0), .int (0), .int (nI (0 + 0 + ky_szJ j_5))])), (va_6, .inl (G.2.1 0, ky_cap (ky_cap 16 (0 + 0)) (0 + 0 + ky_szJ j_5), .inl (f_6))), (z_7, .inr (7, [.ref y_7, .int (0), .int (0), .int (0)])), (y_7, .inl (G.2.1 0, 0 + 0 + ky_szJ j_5, .inl (g_7)))] H := hP
  have hD : va_D A [(mo, .inr (5, [.int (w.1), .ref cs, .int (w.2.1), .int (w.2.2.1), .int (w.2.2.2.1)])), (cs, .inl (G.2.1 3, 6, .inr (.inr (.inr (.inr (f)))))), (q_0, .inr (6, [.ref va_6, .int (0), .int (0), .int (nI (0 + 0 + ky_szJ j_5))])), (va_6, .inl (G.2.1 0, ky_cap (ky_cap 16 (0 + 0)) (0 + 0 + ky_szJ j_5), .inl (f_6))), (z_7, .inr (7, [.ref y_7, .int (0), .int (0), .int (0)])), (y_7, .inl (G.2.1 0, 0 + 0 + ky_szJ j_5, .inl (g_7)))] := hD
  refine W.widen (k := 6) (n := 126) (by first | exact Nat.le_refl _ | omega) (by first | exact Nat.le_refl _ | omega) ?_
  have hP9 := hP.sub (ws' := [(mo, .inr (5, [.int (w.1), .ref cs, .int (w.2.1), .int (w.2.2.1), .int (w.2.2.2.1)])), (cs, .inl (G.2.1 3, 6, .inr (.inr (.inr (.inr (f)))))), (z_7, .inr (7, [.ref y_7, .int (0), .int (0), .int (0)])), (y_7, .inl (G.2.1 0, 0 + 0 + ky_szJ j_5, .inl (g_7)))]) [0, 1, 4, 5] rfl
  have hD9 := hD.sub (ws' := [(mo, .inr (5, [.int (w.1), .ref cs, .int (w.2.1), .int (w.2.2.1), .int (w.2.2.2.1)])), (cs, .inl (G.2.1 3, 6, .inr (.inr (.inr (.inr (f)))))), (z_7, .inr (7, [.ref y_7, .int (0), .int (0), .int (0)])), (y_7, .inl (G.2.1 0, 0 + 0 + ky_szJ j_5, .inl (g_7)))]) [0, 1, 4, 5] (by decide) rfl
  refine W.widen (k := 6) (n := 126) (Nat.le_of_ble_eq_true rfl) (Nat.le_of_ble_eq_true rfl) ?_
  exact W.aret (v := .ref z_7) hx hb hr (Or.inl ⟨_, rfl⟩) (Or.inr ⟨_, rfl⟩) (fun t ht hW => ⟨⟨_, (z_7, y_7, 0 + 0 + ky_szJ j_5, g_7), rfl, ⟨rfl, (by show 0 + 0 + ky_szJ j_5 ≤ 34; omega), hg_7⟩, by rw [ht]; exact hP9, hD9, by rw [ht]; exact hIT0.ro hAe hS⟩, hS.F ht⟩) hS.2.2 dc_X9_whole_28
set_option linter.constructorNameAsVariable false in
set_option maxHeartbeats 4000000 in
set_option maxRecDepth 100000 in
theorem mt_J0_coderZ (l : Launch) (G : ky_G) (z : Nat) (y : Nat) (n9 : Nat) (g : Nat → Int32) (sz : Nat)  : Met l my_J0_coder_7d493 (.code my_J0_coder_7d493 prog_22_method_152_code 1 (Option.some Jvm.ClassFile.FieldType.byte) :: ky_B) { frames := 0, cells := 0, slots := 0, locals := 0 } (ky_P G [.ref z] (ky_WZ G (z, y, n9, g)) sz (fun _ => True)) (ky_Q (S := Unit) G (va_A (ky_WZ G (z, y, n9, g)) sz) (fun v _ => v = some (.int 0)) (fun _ => ky_WZ G (z, y, n9, g)) (fun _ _ => True)) (0) (0) (va_A (ky_WZ G (z, y, n9, g)) sz) := by
  refine ky_start (by decide) (Nat.le_of_ble_eq_true rfl) (fun p e s m below meth c F hE A hAe hsz hA hfr hP hD hS hX ls hl => ?_)
  obtain ⟨hx, hb, hml, hown, hr, hlocks, hts⟩ := id F
  have hl : lv_has ls 1 [(0, .ref z)] := hl
  have hP : va_P G.1 kcl [(z, .inr (7, [.ref y, .int (0), .int (0), .int (0)])), (y, .inl (G.2.1 0, n9, .inl (g)))] s.heap := hP
  have hD : va_D A [(z, .inr (7, [.ref y, .int (0), .int (0), .int (0)])), (y, .inl (G.2.1 0, n9, .inl (g)))] := hD
  refine va_gets hx hb (kq_compact hE hfr) hS hown (hts _ kw_2_7) (fun _ h9 => h9) dc_J0_coder_7d493_0 ?_
  refine lv_if_eq (tgt := 13) hx hb dc_J0_coder_7d493_3 (by decide) (fun c_0 => absurd c_0 (by decide)) (fun _ => ?_)
  refine lv_aload_n hx hb dc_J0_coder_7d493_6 rfl (lv_at hl 0 rfl) ?_
  refine va_get (D := G.1) (ci := 7) (v := .int (0)) (C := RJ0) (T := TJ0) (N := 4) hx hb hts ki_J0 hown hE.1 hP 0 rfl rfl 1 (by decide) (hts _ kw_2_190) (fun _ h9 => h9) rfl dc_J0_coder_7d493_7 ?_
  refine lv_goto (tgt := 14) hx hb dc_J0_coder_7d493_10 (by decide) ?_
  have hP9 := hP.sub (ws' := [(z, .inr (7, [.ref y, .int (0), .int (0), .int (0)])), (y, .inl (G.2.1 0, n9, .inl (g)))]) [0, 1] rfl
  have hD9 := hD.sub (ws' := [(z, .inr (7, [.ref y, .int (0), .int (0), .int (0)])), (y, .inl (G.2.1 0, n9, .inl (g)))]) [0, 1] (by decide) rfl
  refine W.widen (k := 0) (n := 0) (Nat.le_of_ble_eq_true rfl) (Nat.le_of_ble_eq_true rfl) ?_
  exact W.zret (v := 0) hx hb hr (by decide) (fun t ht hW => ⟨⟨_, (), rfl, rfl, by rw [ht]; exact hP9, hD9, trivial⟩, hS.F ht⟩) hS.2.2 dc_J0_coder_7d493_14
set_option linter.constructorNameAsVariable false in
set_option maxHeartbeats 4000000 in
set_option maxRecDepth 100000 in
theorem mt_J0_lengthZ (l : Launch) (G : ky_G) (z : Nat) (y : Nat) (n9 : Nat) (g : Nat → Int32) (sz : Nat)  : Met l my_J0_length_8abf5 (.code my_J0_length_8abf5 prog_22_method_54_code 1 (some .int) :: ky_B) { frames := 1, cells := 0, slots := 0, locals := 20 } (ky_P G [.ref z] (ky_WZ G (z, y, n9, g)) sz (fun _ => True)) (ky_Q (S := Unit) G (va_A (ky_WZ G (z, y, n9, g)) sz) (fun v _ => v = some (.int (nI n9))) (fun _ => ky_WZ G (z, y, n9, g)) (fun _ _ => True)) (0) (0) (va_A (ky_WZ G (z, y, n9, g)) sz) := by
  refine ky_start (by decide) (Nat.le_of_ble_eq_true rfl) (fun p e s m below meth c F hE A hAe hsz hA hfr hP hD hS hX ls hl => ?_)
  obtain ⟨hx, hb, hml, hown, hr, hlocks, hts⟩ := id F
  have hl : lv_has ls 1 [(0, .ref z)] := hl
  have hP : va_P G.1 kcl [(z, .inr (7, [.ref y, .int (0), .int (0), .int (0)])), (y, .inl (G.2.1 0, n9, .inl (g)))] s.heap := hP
  have hD : va_D A [(z, .inr (7, [.ref y, .int (0), .int (0), .int (0)])), (y, .inl (G.2.1 0, n9, .inl (g)))] := hD
  refine lv_aload_n hx hb dc_J0_length_8abf5_0 rfl (lv_at hl 0 rfl) ?_
  refine va_get (D := G.1) (ci := 7) (v := .ref y) (C := RJ0) (T := TJ0) (N := 4) hx hb hts ki_J0 hown hE.1 hP 0 rfl rfl 0 (by decide) (hts _ kw_2_189) (fun _ h9 => h9) rfl dc_J0_length_8abf5_1 ?_
  refine va_alen hx hb hE.1 hP 1 0 rfl rfl (v := Int32.ofNat (n9)) rfl dc_J0_length_8abf5_4 ?_
  refine lv_aload_n hx hb dc_J0_length_8abf5_5 rfl (lv_at hl 0 rfl) ?_
  refine ky_cVh (As := []) (wr := []) F (hE.at hfr hS) hfr (mt_J0_coderZ l G z y n9 g s.heap.size ) kv_J0_335 ⟨⟨rfl, rfl⟩, Nat.le_of_ble_eq_true rfl, Nat.le_of_ble_eq_true rfl⟩ rfl hl.1 rfl (Nat.le_of_ble_eq_true rfl) ⟨Nat.le_of_ble_eq_true rfl, Nat.le_of_ble_eq_true rfl⟩ (va_recv hE.1 hP (ci := 7) (q0 := 0) rfl rfl) trivial hP hD hS hA [0, 1] [] rfl rfl (by decide) (by decide) (by decide) dc_J0_length_8abf5_6 ?_
  rintro v9 u9 H locs rfl hP hD hS - hz hk9
  have hP : va_P G.1 kcl [(z, .inr (7, [.ref y, .int (0), .int (0), .int (0)])), (y, .inl (G.2.1 0, n9, .inl (g)))] H := hP
  have hD : va_D A [(z, .inr (7, [.ref y, .int (0), .int (0), .int (0)])), (y, .inl (G.2.1 0, n9, .inl (g)))] := hD
  refine W.widen (k := 0) (n := 0) (by first | exact Nat.le_refl _ | omega) (by first | exact Nat.le_refl _ | omega) ?_
  refine lv_ishr hx hb dc_J0_length_8abf5_9 ?_
  rw [show (((Int32.ofNat (n9)) >>> (((0 : Int32)) &&& 31)) : Int32) = nI (n9) from sb_shr0 _]
  have hP9 := hP.sub (ws' := [(z, .inr (7, [.ref y, .int (0), .int (0), .int (0)])), (y, .inl (G.2.1 0, n9, .inl (g)))]) [0, 1] rfl
  have hD9 := hD.sub (ws' := [(z, .inr (7, [.ref y, .int (0), .int (0), .int (0)])), (y, .inl (G.2.1 0, n9, .inl (g)))]) [0, 1] (by decide) rfl
  refine W.widen (k := 0) (n := 0) (Nat.le_of_ble_eq_true rfl) (Nat.le_of_ble_eq_true rfl) ?_
  exact W.iret (v := nI (n9)) hx hb hr (fun t ht hW => ⟨⟨_, (), rfl, rfl, by rw [ht]; exact hP9, hD9, trivial⟩, hS.F ht⟩) hS.2.2 dc_J0_length_8abf5_10
set_option linter.constructorNameAsVariable false in
set_option maxHeartbeats 4000000 in
set_option maxRecDepth 100000 in
theorem mt_X9_add_ (l : Launch) (G : ky_G) (z : Nat) (y : Nat) (n9 : Nat) (g : Nat → Int32) (a0 : Int64) (sz : Nat)  : Met l my_X9_add_ (.code my_X9_add_ prog_10_method_79_code 3 (some .long) :: ky_B) { frames := 2, cells := 0, slots := 0, locals := 40 } (ky_P G [.long (a0), .ref z] (ky_WZ G (z, y, n9, g)) sz (fun _ => True)) (ky_Q (S := Unit) G (va_A (ky_WZ G (z, y, n9, g)) sz) (fun v _ => ∃ r, v = some (.long r)) (fun _ => ky_WZ G (z, y, n9, g)) (fun _ _ => True)) (0) (0) (va_A (ky_WZ G (z, y, n9, g)) sz) := by
  refine ky_start (by decide) (Nat.le_of_ble_eq_true rfl) (fun p e s m below meth c F hE A hAe hsz hA hfr hP hD hS hX ls hl => ?_)
  obtain ⟨hx, hb, hml, hown, hr, hlocks, hts⟩ := id F
  have hl : lv_has ls 3 [(0, .long (a0)), (2, .ref z)] := hl
  have hP : va_P G.1 kcl [(z, .inr (7, [.ref y, .int (0), .int (0), .int (0)])), (y, .inl (G.2.1 0, n9, .inl (g)))] s.heap := hP
  have hD : va_D A [(z, .inr (7, [.ref y, .int (0), .int (0), .int (0)])), (y, .inl (G.2.1 0, n9, .inl (g)))] := hD
  refine lv_lload_n hx hb dc_X9_add__0 rfl (lv_at hl 0 rfl) ?_
  refine lv_aload_n hx hb dc_X9_add__1 rfl (lv_at hl 1 rfl) ?_
  refine ky_cVh (As := []) (wr := []) F (hE.at hfr hS) hfr (mt_J0_lengthZ l G z y n9 g s.heap.size ) kv_X9_263 ⟨⟨rfl, rfl⟩, Nat.le_of_ble_eq_true rfl, Nat.le_of_ble_eq_true rfl⟩ rfl hl.1 rfl (Nat.le_of_ble_eq_true rfl) ⟨Nat.le_of_ble_eq_true rfl, Nat.le_of_ble_eq_true rfl⟩ (va_recv hE.1 hP (ci := 7) (q0 := 0) rfl rfl) trivial hP hD hS hA [0, 1] [] rfl rfl (by decide) (by decide) (by decide) dc_X9_add__2 ?_
  rintro v9 u9 H locs rfl hP hD hS - hz hk9
  have hP : va_P G.1 kcl [(z, .inr (7, [.ref y, .int (0), .int (0), .int (0)])), (y, .inl (G.2.1 0, n9, .inl (g)))] H := hP
  have hD : va_D A [(z, .inr (7, [.ref y, .int (0), .int (0), .int (0)])), (y, .inl (G.2.1 0, n9, .inl (g)))] := hD
  refine W.widen (k := 0) (n := 0) (by first | exact Nat.le_refl _ | omega) (by first | exact Nat.le_refl _ | omega) ?_
  refine lv_i2l (v := (nI (n9)).toInt64) hx hb dc_X9_add__5 rfl ?_
  refine ky_cS0 (As := [.long (a0), .long ((nI (n9)).toInt64)]) F (mt_X9_add l (a0) ((nI (n9)).toInt64)) ks_X9_268 ⟨⟨rfl, rfl⟩, by decide, by decide⟩ rfl hl.1 rfl (Nat.le_of_ble_eq_true rfl) ⟨Nat.le_of_ble_eq_true rfl, Nat.le_of_ble_eq_true rfl⟩ dc_X9_add__6 ?_
  have hP9 := hP.sub (ws' := [(z, .inr (7, [.ref y, .int (0), .int (0), .int (0)])), (y, .inl (G.2.1 0, n9, .inl (g)))]) [0, 1] rfl
  have hD9 := hD.sub (ws' := [(z, .inr (7, [.ref y, .int (0), .int (0), .int (0)])), (y, .inl (G.2.1 0, n9, .inl (g)))]) [0, 1] (by decide) rfl
  refine W.widen (k := 0) (n := 0) (Nat.le_of_ble_eq_true rfl) (Nat.le_of_ble_eq_true rfl) ?_
  exact W.lret (v := fn_X9_add (a0) ((nI (n9)).toInt64)) hx hb hr (fun t ht hW => ⟨⟨_, (), rfl, ⟨_, rfl⟩, by rw [ht]; exact hP9, hD9, trivial⟩, hS.F ht⟩) hS.2.2 dc_X9_add__9
set_option linter.constructorNameAsVariable false in
set_option maxHeartbeats 4000000 in
set_option maxRecDepth 100000 in
theorem mt_X9_text (l : Launch) (G : ky_G) (mo : Nat) (cs : Nat) (N : Nat → Prop) (w : ky_MV) (f : Nat → Option Nat) (a1 : Int32) (sz : Nat)  : Met l my_X9_text (.code my_X9_text prog_10_method_42_code 2 (Option.some (Jvm.ClassFile.FieldType.object "java/lang/String")) :: ky_B) { frames := 7, cells := 8, slots := 194, locals := 175 } (ky_P G [.ref mo, .int (a1)] (ky_WM G mo cs w f) sz (fun H => ky_IT G mo cs N f w.2.2.2.2 H)) (ky_Q (S := Int32) G (va_A (ky_WM G mo cs w f) sz) (fun v _ => ∃ z : Nat, v = some (.ref z)) (fun u => ky_WM G mo cs (u, w.2) f) (fun _ H => ky_IT G mo cs N f w.2.2.2.2 H)) (8) (194) (va_A (ky_WM G mo cs w f) sz) := by
  refine ky_start (by decide) (Nat.le_of_ble_eq_true rfl) (fun p e s m below meth c F hE A hAe hsz hA hfr hP hD hS hX ls hl => ?_)
  obtain ⟨hx, hb, hml, hown, hr, hlocks, hts⟩ := id F
  have hl : lv_has ls 2 [(0, .ref mo), (1, .int (a1))] := hl
  have hP : va_P G.1 kcl [(mo, .inr (5, [.int (w.1), .ref cs, .int (w.2.1), .int (w.2.2.1), .int (w.2.2.2.1)])), (cs, .inl (G.2.1 3, 6, .inr (.inr (.inr (.inr (f))))))] s.heap := hP
  have hD : va_D A [(mo, .inr (5, [.int (w.1), .ref cs, .int (w.2.1), .int (w.2.2.1), .int (w.2.2.2.1)])), (cs, .inl (G.2.1 3, 6, .inr (.inr (.inr (.inr (f))))))] := hD
  have hIT0 := hX
  refine lv_aload_n hx hb dc_X9_text_0 rfl (lv_at hl 0 rfl) ?_
  refine lv_iload_n hx hb dc_X9_text_1 rfl (lv_at hl 1 rfl) ?_
  refine ky_cS0 (As := [.int (a1)]) F (mt_X9_isNo l (a1)) ks_X9_51 ⟨⟨rfl, rfl⟩, by decide, by decide⟩ rfl hl.1 rfl (Nat.le_of_ble_eq_true rfl) ⟨Nat.le_of_ble_eq_true rfl, Nat.le_of_ble_eq_true rfl⟩ dc_X9_text_2 ?_
  refine ky_cVh (As := [.int (fn_X9_isNo (a1))]) (wr := []) F (hE.at hfr hS) hfr (mt_X9_startJ l G (mo) (cs) ((w.1, w.2.1, w.2.2.1, w.2.2.2.1)) (f) (fn_X9_isNo (a1)) s.heap.size ) kv_X9_55 ⟨⟨rfl, rfl⟩, by decide, by decide⟩ rfl hl.1 rfl (Nat.le_of_ble_eq_true rfl) ⟨Nat.le_of_ble_eq_true rfl, Nat.le_of_ble_eq_true rfl⟩ (va_recv hE.1 hP (ci := 5) (q0 := 0) rfl rfl) trivial hP hD hS hA [0, 1] [] rfl rfl (by decide) (by decide) (by decide) dc_X9_text_5 ?_
  rintro v9 u9 H locs ⟨rfl, hu9⟩ hP hD hS - hz hk9
  have hu9 := hu9.symm
  subst hu9
  obtain ⟨j_1, hj_1⟩ : ∃ j9, j9 = jst (fn_X9_isNo (a1)) := ⟨_, rfl⟩
  rw [← hj_1] at hP hD ⊢
  try rw [← hj_1] at hw
  have hP : va_P G.1 kcl [(mo, .inr (5, [.int (j_1), .ref cs, .int (w.2.1), .int (w.2.2.1), .int (w.2.2.2.1)])), (cs, .inl (G.2.1 3, 6, .inr (.inr (.inr (.inr (f))))))] H := hP
  have hD : va_D A [(mo, .inr (5, [.int (j_1), .ref cs, .int (w.2.1), .int (w.2.2.1), .int (w.2.2.2.1)])), (cs, .inl (G.2.1 3, 6, .inr (.inr (.inr (.inr (f))))))] := hD
  refine W.widen (k := 0) (n := 0) (Nat.le_refl _) (Nat.le_refl _) ?_
  refine lv_if_eq (tgt := 16) hx hb dc_X9_text_8 (by decide) (fun c_2 => ?_) (fun c_2 => ?_)
  · skip
    refine lv_aload_n hx hb dc_X9_text_16 rfl (lv_at hl 0 rfl) ?_
    refine va_get (D := G.1) (ci := 5) (v := .ref cs) (C := RX9) (T := TX9) (N := 5) hx hb hts ki_X9 hown hE.1 hP 0 rfl rfl 1 (by decide) (hts _ kw_6_20) (fun _ h9 => h9) rfl dc_X9_text_17 ?_
    refine lv_iload_n hx hb dc_X9_text_20 rfl (lv_at hl 1 rfl) ?_
    have hv_3 : vp_in (a1) 6 := (lr_start (hj_1.symm.trans c_2))
    have hIT := hIT0.ro hAe hS
    refine va_aldq hx hb hE.1 hP 1 3 rfl rfl hv_3 dc_X9_text_21 ?_
    obtain ⟨b_3, hb_3, hI_3, ho_3⟩ := hIT.2 _ (ky_i6 hv_3)
    rw [ky_rf hb_3]
    have hX_3 : ky_It G b_3 ((w.2.2.2.2) (a1).toNatClampNeg) s.heap := by obtain ⟨b9, e9, i9, -⟩ := hIT0.2 _ (ky_i6 hv_3); have z9 : b9 = b_3 := Option.some.inj (e9.symm.trans hb_3); exact z9 ▸ i9
    have hI_3 := ky_ro2 hX_3 ho_3 hAe hS
    refine ky_cVh (As := []) (wr := [(mo, .inr (5, [.int (j_1), .ref cs, .int (w.2.1), .int (w.2.2.1), .int (w.2.2.2.1)])), (cs, .inl (G.2.1 3, 6, .inr (.inr (.inr (.inr (f))))))]) F (hE.at hfr hS) hfr (mt_X8_text l G b_3 ((w.2.2.2.2) (a1).toNatClampNeg) H.size ) kv_X9_173 ⟨⟨rfl, rfl⟩, Nat.le_of_ble_eq_true rfl, Nat.le_of_ble_eq_true rfl⟩ rfl hl.1 rfl (Nat.le_of_ble_eq_true rfl) ⟨Nat.le_of_ble_eq_true rfl, Nat.le_of_ble_eq_true rfl⟩ (va_recv hE.1 hI_3 (ci := 4) (q0 := 0) rfl rfl) hI_3 hP hD hS hA [] [0, 1] rfl rfl (by decide) (by decide) (by decide) dc_X9_text_22 ?_
    rintro v9 ⟨z_4, y_4, n_4, g_4⟩ H locs ⟨rfl, hn_4, hg_4⟩ hP hD hS - hz hk9
    have hP : va_P G.1 kcl [(mo, .inr (5, [.int (j_1), .ref cs, .int (w.2.1), .int (w.2.2.1), .int (w.2.2.2.1)])), (cs, .inl (G.2.1 3, 6, .inr (.inr (.inr (.inr (f)))))), (z_4, .inr (7, [.ref y_4, .int (0), .int (0), .int (0)])), (y_4, .inl (G.2.1 0, n_4, .inl (g_4)))] H := hP
    have hD : va_D A [(mo, .inr (5, [.int (j_1), .ref cs, .int (w.2.1), .int (w.2.2.1), .int (w.2.2.2.1)])), (cs, .inl (G.2.1 3, 6, .inr (.inr (.inr (.inr (f)))))), (z_4, .inr (7, [.ref y_4, .int (0), .int (0), .int (0)])), (y_4, .inl (G.2.1 0, n_4, .inl (g_4)))] := hD
    refine W.widen (k := 8) (n := 194) (by first | exact Nat.le_refl _ | omega) (by first | exact Nat.le_refl _ | omega) ?_
    have hP9 := hP.sub (ws' := [(mo, .inr (5, [.int (j_1), .ref cs, .int (w.2.1), .int (w.2.2.1), .int (w.2.2.2.1)])), (cs, .inl (G.2.1 3, 6, .inr (.inr (.inr (.inr (f))))))]) [0, 1] rfl
    have hD9 := hD.sub (ws' := [(mo, .inr (5, [.int (j_1), .ref cs, .int (w.2.1), .int (w.2.2.1), .int (w.2.2.2.1)])), (cs, .inl (G.2.1 3, 6, .inr (.inr (.inr (.inr (f))))))]) [0, 1] (by decide) rfl
    refine W.widen (k := 8) (n := 194) (Nat.le_of_ble_eq_true rfl) (Nat.le_of_ble_eq_true rfl) ?_
    exact W.aret (v := .ref z_4) hx hb hr (Or.inl ⟨_, rfl⟩) (Or.inr ⟨_, rfl⟩) (fun t ht hW => ⟨⟨_, j_1, rfl, ⟨_, rfl⟩, by rw [ht]; exact hP9, hD9, by rw [ht]; exact hIT0.ro hAe hS⟩, hS.F ht⟩) hS.2.2 dc_X9_text_25
  · skip
    obtain ⟨k_3, hR_3, hZ_3⟩ := ky_s7 hE
    refine va_ldcS hx hb hown hR_3 dc_X9_text_11 ?_
    refine lv_goto (tgt := 25) hx hb dc_X9_text_13 (by decide) ?_
    have hP9 := hP.sub (ws' := [(mo, .inr (5, [.int (j_1), .ref cs, .int (w.2.1), .int (w.2.2.1), .int (w.2.2.2.1)])), (cs, .inl (G.2.1 3, 6, .inr (.inr (.inr (.inr (f))))))]) [0, 1] rfl
    have hD9 := hD.sub (ws' := [(mo, .inr (5, [.int (j_1), .ref cs, .int (w.2.1), .int (w.2.2.1), .int (w.2.2.2.1)])), (cs, .inl (G.2.1 3, 6, .inr (.inr (.inr (.inr (f))))))]) [0, 1] (by decide) rfl
    refine W.widen (k := 8) (n := 194) (Nat.le_of_ble_eq_true rfl) (Nat.le_of_ble_eq_true rfl) ?_
    exact W.aret (v := .ref k_3) hx hb hr (Or.inl ⟨_, rfl⟩) (Or.inr ⟨_, rfl⟩) (fun t ht hW => ⟨⟨_, j_1, rfl, ⟨_, rfl⟩, by rw [ht]; exact hP9, hD9, by rw [ht]; exact hIT0.ro hAe hS⟩, hS.F ht⟩) hS.2.2 dc_X9_text_25
set_option linter.constructorNameAsVariable false in
set_option maxHeartbeats 4000000 in
set_option maxRecDepth 100000 in
theorem mt_X9_rounded (l : Launch) (G : ky_G) (mo : Nat) (cs : Nat) (N : Nat → Prop) (w : ky_MV) (f : Nat → Option Nat) (a1 : Int32) (sz : Nat)  : Met l my_X9_rounded (.code my_X9_rounded prog_10_method_47_code 2 (Option.some (Jvm.ClassFile.FieldType.object "java/lang/String")) :: ky_B) { frames := 7, cells := 6, slots := 126, locals := 173 } (ky_P G [.ref mo, .int (a1)] (ky_WM G mo cs w f) sz (fun H => ky_IT G mo cs N f w.2.2.2.2 H)) (ky_Q (S := Int32) G (va_A (ky_WM G mo cs w f) sz) (fun v _ => ∃ z : Nat, v = some (.ref z)) (fun u => ky_WM G mo cs (u, w.2) f) (fun _ H => ky_IT G mo cs N f w.2.2.2.2 H)) (6) (126) (va_A (ky_WM G mo cs w f) sz) := by
  refine ky_start (by decide) (Nat.le_of_ble_eq_true rfl) (fun p e s m below meth c F hE A hAe hsz hA hfr hP hD hS hX ls hl => ?_)
  obtain ⟨hx, hb, hml, hown, hr, hlocks, hts⟩ := id F
  have hl : lv_has ls 2 [(0, .ref mo), (1, .int (a1))] := hl
  have hP : va_P G.1 kcl [(mo, .inr (5, [.int (w.1), .ref cs, .int (w.2.1), .int (w.2.2.1), .int (w.2.2.2.1)])), (cs, .inl (G.2.1 3, 6, .inr (.inr (.inr (.inr (f))))))] s.heap := hP
  have hD : va_D A [(mo, .inr (5, [.int (w.1), .ref cs, .int (w.2.1), .int (w.2.2.1), .int (w.2.2.2.1)])), (cs, .inl (G.2.1 3, 6, .inr (.inr (.inr (.inr (f))))))] := hD
  have hIT0 := hX
  refine lv_aload_n hx hb dc_X9_rounded_0 rfl (lv_at hl 0 rfl) ?_
  refine lv_iload_n hx hb dc_X9_rounded_1 rfl (lv_at hl 1 rfl) ?_
  refine ky_cS0 (As := [.int (a1)]) F (mt_X9_isNo l (a1)) ks_X9_51 ⟨⟨rfl, rfl⟩, by decide, by decide⟩ rfl hl.1 rfl (Nat.le_of_ble_eq_true rfl) ⟨Nat.le_of_ble_eq_true rfl, Nat.le_of_ble_eq_true rfl⟩ dc_X9_rounded_2 ?_
  refine ky_cVh (As := [.int (fn_X9_isNo (a1))]) (wr := []) F (hE.at hfr hS) hfr (mt_X9_startJ l G (mo) (cs) ((w.1, w.2.1, w.2.2.1, w.2.2.2.1)) (f) (fn_X9_isNo (a1)) s.heap.size ) kv_X9_55 ⟨⟨rfl, rfl⟩, by decide, by decide⟩ rfl hl.1 rfl (Nat.le_of_ble_eq_true rfl) ⟨Nat.le_of_ble_eq_true rfl, Nat.le_of_ble_eq_true rfl⟩ (va_recv hE.1 hP (ci := 5) (q0 := 0) rfl rfl) trivial hP hD hS hA [0, 1] [] rfl rfl (by decide) (by decide) (by decide) dc_X9_rounded_5 ?_
  rintro v9 u9 H locs ⟨rfl, hu9⟩ hP hD hS - hz hk9
  have hu9 := hu9.symm
  subst hu9
  obtain ⟨j_1, hj_1⟩ : ∃ j9, j9 = jst (fn_X9_isNo (a1)) := ⟨_, rfl⟩
  rw [← hj_1] at hP hD ⊢
  try rw [← hj_1] at hw
  have hP : va_P G.1 kcl [(mo, .inr (5, [.int (j_1), .ref cs, .int (w.2.1), .int (w.2.2.1), .int (w.2.2.2.1)])), (cs, .inl (G.2.1 3, 6, .inr (.inr (.inr (.inr (f))))))] H := hP
  have hD : va_D A [(mo, .inr (5, [.int (j_1), .ref cs, .int (w.2.1), .int (w.2.2.1), .int (w.2.2.2.1)])), (cs, .inl (G.2.1 3, 6, .inr (.inr (.inr (.inr (f))))))] := hD
  refine W.widen (k := 0) (n := 0) (Nat.le_refl _) (Nat.le_refl _) ?_
  refine lv_if_eq (tgt := 16) hx hb dc_X9_rounded_8 (by decide) (fun c_2 => ?_) (fun c_2 => ?_)
  · skip
    refine lv_aload_n hx hb dc_X9_rounded_16 rfl (lv_at hl 0 rfl) ?_
    refine lv_iload_n hx hb dc_X9_rounded_17 rfl (lv_at hl 1 rfl) ?_
    refine lv_iconst (v := 0) hx hb dc_X9_rounded_18 (by decide) ?_
    have hIT := hIT0.ro hAe hS
    refine ky_cVh (As := [.int (a1), .int ((0 : Int32))]) (wr := []) F (hE.at hfr hS) hfr (mt_X9_whole l G mo cs N (j_1, w.2.1, w.2.2.1, w.2.2.2.1, w.2.2.2.2) f a1 (0 : Int32) H.size (lr_start (hj_1.symm.trans c_2))) kv_X9_198 ⟨⟨rfl, rfl⟩, Nat.le_of_ble_eq_true rfl, Nat.le_of_ble_eq_true rfl⟩ rfl hl.1 rfl (Nat.le_of_ble_eq_true rfl) ⟨Nat.le_of_ble_eq_true rfl, Nat.le_of_ble_eq_true rfl⟩ (va_recv hE.1 hP (ci := 5) (q0 := 0) rfl rfl) hIT hP hD hS hA [0, 1] [] rfl rfl (by decide) (by decide) (by decide) dc_X9_rounded_19 ?_
    rintro v9 ⟨z_3, y_3, n_3, g_3⟩ H locs ⟨rfl, hn_3, hg_3⟩ hP hD hS - hz hk9
    have hP : va_P G.1 kcl [(mo, .inr (5, [.int (j_1), .ref cs, .int (w.2.1), .int (w.2.2.1), .int (w.2.2.2.1)])), (cs, .inl (G.2.1 3, 6, .inr (.inr (.inr (.inr (f)))))), (z_3, .inr (7, [.ref y_3, .int (0), .int (0), .int (0)])), (y_3, .inl (G.2.1 0, n_3, .inl (g_3)))] H := hP
    have hD : va_D A [(mo, .inr (5, [.int (j_1), .ref cs, .int (w.2.1), .int (w.2.2.1), .int (w.2.2.2.1)])), (cs, .inl (G.2.1 3, 6, .inr (.inr (.inr (.inr (f)))))), (z_3, .inr (7, [.ref y_3, .int (0), .int (0), .int (0)])), (y_3, .inl (G.2.1 0, n_3, .inl (g_3)))] := hD
    refine W.widen (k := 6) (n := 126) (by first | exact Nat.le_refl _ | omega) (by first | exact Nat.le_refl _ | omega) ?_
    have hP9 := hP.sub (ws' := [(mo, .inr (5, [.int (j_1), .ref cs, .int (w.2.1), .int (w.2.2.1), .int (w.2.2.2.1)])), (cs, .inl (G.2.1 3, 6, .inr (.inr (.inr (.inr (f))))))]) [0, 1] rfl
    have hD9 := hD.sub (ws' := [(mo, .inr (5, [.int (j_1), .ref cs, .int (w.2.1), .int (w.2.2.1), .int (w.2.2.2.1)])), (cs, .inl (G.2.1 3, 6, .inr (.inr (.inr (.inr (f))))))]) [0, 1] (by decide) rfl
    refine W.widen (k := 6) (n := 126) (Nat.le_of_ble_eq_true rfl) (Nat.le_of_ble_eq_true rfl) ?_
    exact W.aret (v := .ref z_3) hx hb hr (Or.inl ⟨_, rfl⟩) (Or.inr ⟨_, rfl⟩) (fun t ht hW => ⟨⟨_, j_1, rfl, ⟨_, rfl⟩, by rw [ht]; exact hP9, hD9, by rw [ht]; exact hIT0.ro hAe hS⟩, hS.F ht⟩) hS.2.2 dc_X9_rounded_22
  · skip
    obtain ⟨k_3, hR_3, hZ_3⟩ := ky_s7 hE
    refine va_ldcS hx hb hown hR_3 dc_X9_rounded_11 ?_
    refine lv_goto (tgt := 22) hx hb dc_X9_rounded_13 (by decide) ?_
    have hP9 := hP.sub (ws' := [(mo, .inr (5, [.int (j_1), .ref cs, .int (w.2.1), .int (w.2.2.1), .int (w.2.2.2.1)])), (cs, .inl (G.2.1 3, 6, .inr (.inr (.inr (.inr (f))))))]) [0, 1] rfl
    have hD9 := hD.sub (ws' := [(mo, .inr (5, [.int (j_1), .ref cs, .int (w.2.1), .int (w.2.2.1), .int (w.2.2.2.1)])), (cs, .inl (G.2.1 3, 6, .inr (.inr (.inr (.inr (f))))))]) [0, 1] (by decide) rfl
    refine W.widen (k := 6) (n := 126) (Nat.le_of_ble_eq_true rfl) (Nat.le_of_ble_eq_true rfl) ?_
    exact W.aret (v := .ref k_3) hx hb hr (Or.inl ⟨_, rfl⟩) (Or.inr ⟨_, rfl⟩) (fun t ht hW => ⟨⟨_, j_1, rfl, ⟨_, rfl⟩, by rw [ht]; exact hP9, hD9, by rw [ht]; exact hIT0.ro hAe hS⟩, hS.F ht⟩) hS.2.2 dc_X9_rounded_22
set_option linter.constructorNameAsVariable false in
set_option maxHeartbeats 4000000 in
set_option maxRecDepth 100000 in
theorem mt_X9_cut (l : Launch) (G : ky_G) (mo : Nat) (cs : Nat) (N : Nat → Prop) (w : ky_MV) (f : Nat → Option Nat) (a1 : Int32) (sz : Nat)  : Met l my_X9_cut (.code my_X9_cut prog_10_method_48_code 2 (Option.some (Jvm.ClassFile.FieldType.object "java/lang/String")) :: ky_B) { frames := 7, cells := 6, slots := 126, locals := 173 } (ky_P G [.ref mo, .int (a1)] (ky_WM G mo cs w f) sz (fun H => ky_IT G mo cs N f w.2.2.2.2 H)) (ky_Q (S := Int32) G (va_A (ky_WM G mo cs w f) sz) (fun v _ => ∃ z : Nat, v = some (.ref z)) (fun u => ky_WM G mo cs (u, w.2) f) (fun _ H => ky_IT G mo cs N f w.2.2.2.2 H)) (6) (126) (va_A (ky_WM G mo cs w f) sz) := by
  refine ky_start (by decide) (Nat.le_of_ble_eq_true rfl) (fun p e s m below meth c F hE A hAe hsz hA hfr hP hD hS hX ls hl => ?_)
  obtain ⟨hx, hb, hml, hown, hr, hlocks, hts⟩ := id F
  have hl : lv_has ls 2 [(0, .ref mo), (1, .int (a1))] := hl
  have hP : va_P G.1 kcl [(mo, .inr (5, [.int (w.1), .ref cs, .int (w.2.1), .int (w.2.2.1), .int (w.2.2.2.1)])), (cs, .inl (G.2.1 3, 6, .inr (.inr (.inr (.inr (f))))))] s.heap := hP
  have hD : va_D A [(mo, .inr (5, [.int (w.1), .ref cs, .int (w.2.1), .int (w.2.2.1), .int (w.2.2.2.1)])), (cs, .inl (G.2.1 3, 6, .inr (.inr (.inr (.inr (f))))))] := hD
  have hIT0 := hX
  refine lv_aload_n hx hb dc_X9_cut_0 rfl (lv_at hl 0 rfl) ?_
  refine lv_iload_n hx hb dc_X9_cut_1 rfl (lv_at hl 1 rfl) ?_
  refine ky_cS0 (As := [.int (a1)]) F (mt_X9_isNo l (a1)) ks_X9_51 ⟨⟨rfl, rfl⟩, by decide, by decide⟩ rfl hl.1 rfl (Nat.le_of_ble_eq_true rfl) ⟨Nat.le_of_ble_eq_true rfl, Nat.le_of_ble_eq_true rfl⟩ dc_X9_cut_2 ?_
  refine ky_cVh (As := [.int (fn_X9_isNo (a1))]) (wr := []) F (hE.at hfr hS) hfr (mt_X9_startJ l G (mo) (cs) ((w.1, w.2.1, w.2.2.1, w.2.2.2.1)) (f) (fn_X9_isNo (a1)) s.heap.size ) kv_X9_55 ⟨⟨rfl, rfl⟩, by decide, by decide⟩ rfl hl.1 rfl (Nat.le_of_ble_eq_true rfl) ⟨Nat.le_of_ble_eq_true rfl, Nat.le_of_ble_eq_true rfl⟩ (va_recv hE.1 hP (ci := 5) (q0 := 0) rfl rfl) trivial hP hD hS hA [0, 1] [] rfl rfl (by decide) (by decide) (by decide) dc_X9_cut_5 ?_
  rintro v9 u9 H locs ⟨rfl, hu9⟩ hP hD hS - hz hk9
  have hu9 := hu9.symm
  subst hu9
  obtain ⟨j_1, hj_1⟩ : ∃ j9, j9 = jst (fn_X9_isNo (a1)) := ⟨_, rfl⟩
  rw [← hj_1] at hP hD ⊢
  try rw [← hj_1] at hw
  have hP : va_P G.1 kcl [(mo, .inr (5, [.int (j_1), .ref cs, .int (w.2.1), .int (w.2.2.1), .int (w.2.2.2.1)])), (cs, .inl (G.2.1 3, 6, .inr (.inr (.inr (.inr (f))))))] H := hP
  have hD : va_D A [(mo, .inr (5, [.int (j_1), .ref cs, .int (w.2.1), .int (w.2.2.1), .int (w.2.2.2.1)])), (cs, .inl (G.2.1 3, 6, .inr (.inr (.inr (.inr (f))))))] := hD
  refine W.widen (k := 0) (n := 0) (Nat.le_refl _) (Nat.le_refl _) ?_
  refine lv_if_eq (tgt := 16) hx hb dc_X9_cut_8 (by decide) (fun c_2 => ?_) (fun c_2 => ?_)
  · skip
    refine lv_aload_n hx hb dc_X9_cut_16 rfl (lv_at hl 0 rfl) ?_
    refine lv_iload_n hx hb dc_X9_cut_17 rfl (lv_at hl 1 rfl) ?_
    refine lv_iconst (v := 1) hx hb dc_X9_cut_18 (by decide) ?_
    have hIT := hIT0.ro hAe hS
    refine ky_cVh (As := [.int (a1), .int ((1 : Int32))]) (wr := []) F (hE.at hfr hS) hfr (mt_X9_whole l G mo cs N (j_1, w.2.1, w.2.2.1, w.2.2.2.1, w.2.2.2.2) f a1 (1 : Int32) H.size (lr_start (hj_1.symm.trans c_2))) kv_X9_198 ⟨⟨rfl, rfl⟩, Nat.le_of_ble_eq_true rfl, Nat.le_of_ble_eq_true rfl⟩ rfl hl.1 rfl (Nat.le_of_ble_eq_true rfl) ⟨Nat.le_of_ble_eq_true rfl, Nat.le_of_ble_eq_true rfl⟩ (va_recv hE.1 hP (ci := 5) (q0 := 0) rfl rfl) hIT hP hD hS hA [0, 1] [] rfl rfl (by decide) (by decide) (by decide) dc_X9_cut_19 ?_
    rintro v9 ⟨z_3, y_3, n_3, g_3⟩ H locs ⟨rfl, hn_3, hg_3⟩ hP hD hS - hz hk9
    have hP : va_P G.1 kcl [(mo, .inr (5, [.int (j_1), .ref cs, .int (w.2.1), .int (w.2.2.1), .int (w.2.2.2.1)])), (cs, .inl (G.2.1 3, 6, .inr (.inr (.inr (.inr (f)))))), (z_3, .inr (7, [.ref y_3, .int (0), .int (0), .int (0)])), (y_3, .inl (G.2.1 0, n_3, .inl (g_3)))] H := hP
    have hD : va_D A [(mo, .inr (5, [.int (j_1), .ref cs, .int (w.2.1), .int (w.2.2.1), .int (w.2.2.2.1)])), (cs, .inl (G.2.1 3, 6, .inr (.inr (.inr (.inr (f)))))), (z_3, .inr (7, [.ref y_3, .int (0), .int (0), .int (0)])), (y_3, .inl (G.2.1 0, n_3, .inl (g_3)))] := hD
    refine W.widen (k := 6) (n := 126) (by first | exact Nat.le_refl _ | omega) (by first | exact Nat.le_refl _ | omega) ?_
    have hP9 := hP.sub (ws' := [(mo, .inr (5, [.int (j_1), .ref cs, .int (w.2.1), .int (w.2.2.1), .int (w.2.2.2.1)])), (cs, .inl (G.2.1 3, 6, .inr (.inr (.inr (.inr (f))))))]) [0, 1] rfl
    have hD9 := hD.sub (ws' := [(mo, .inr (5, [.int (j_1), .ref cs, .int (w.2.1), .int (w.2.2.1), .int (w.2.2.2.1)])), (cs, .inl (G.2.1 3, 6, .inr (.inr (.inr (.inr (f))))))]) [0, 1] (by decide) rfl
    refine W.widen (k := 6) (n := 126) (Nat.le_of_ble_eq_true rfl) (Nat.le_of_ble_eq_true rfl) ?_
    exact W.aret (v := .ref z_3) hx hb hr (Or.inl ⟨_, rfl⟩) (Or.inr ⟨_, rfl⟩) (fun t ht hW => ⟨⟨_, j_1, rfl, ⟨_, rfl⟩, by rw [ht]; exact hP9, hD9, by rw [ht]; exact hIT0.ro hAe hS⟩, hS.F ht⟩) hS.2.2 dc_X9_cut_22
  · skip
    obtain ⟨k_3, hR_3, hZ_3⟩ := ky_s7 hE
    refine va_ldcS hx hb hown hR_3 dc_X9_cut_11 ?_
    refine lv_goto (tgt := 22) hx hb dc_X9_cut_13 (by decide) ?_
    have hP9 := hP.sub (ws' := [(mo, .inr (5, [.int (j_1), .ref cs, .int (w.2.1), .int (w.2.2.1), .int (w.2.2.2.1)])), (cs, .inl (G.2.1 3, 6, .inr (.inr (.inr (.inr (f))))))]) [0, 1] rfl
    have hD9 := hD.sub (ws' := [(mo, .inr (5, [.int (j_1), .ref cs, .int (w.2.1), .int (w.2.2.1), .int (w.2.2.2.1)])), (cs, .inl (G.2.1 3, 6, .inr (.inr (.inr (.inr (f))))))]) [0, 1] (by decide) rfl
    refine W.widen (k := 6) (n := 126) (Nat.le_of_ble_eq_true rfl) (Nat.le_of_ble_eq_true rfl) ?_
    exact W.aret (v := .ref k_3) hx hb hr (Or.inl ⟨_, rfl⟩) (Or.inr ⟨_, rfl⟩) (fun t ht hW => ⟨⟨_, j_1, rfl, ⟨_, rfl⟩, by rw [ht]; exact hP9, hD9, by rw [ht]; exact hIT0.ro hAe hS⟩, hS.F ht⟩) hS.2.2 dc_X9_cut_22
set_option linter.constructorNameAsVariable false in
set_option maxHeartbeats 4000000 in
set_option maxRecDepth 100000 in
theorem mt_X9_takenText (l : Launch) (G : ky_G) (mo : Nat) (cs : Nat) (N : Nat → Prop) (w : ky_MV) (f : Nat → Option Nat) (a1 : Int32) (a2 : Int32) (sz : Nat)  : Met l my_X9_takenText (.code my_X9_takenText prog_10_method_63_code 3 (Option.some (Jvm.ClassFile.FieldType.object "java/lang/String")) :: ky_B) { frames := 7, cells := 9, slots := 196, locals := 175 } (ky_P G [.ref mo, .int (a1), .int (a2)] (ky_WM G mo cs w f) sz (fun H => ky_IT G mo cs N f w.2.2.2.2 H)) (ky_Q (S := Int32) G (va_A (ky_WM G mo cs w f) sz) (fun v _ => ∃ z : Nat, v = some (.ref z)) (fun u => ky_WM G mo cs (u, w.2) f) (fun _ H => ky_IT G mo cs N f w.2.2.2.2 H)) (9) (196) (va_A (ky_WM G mo cs w f) sz) := by
  refine ky_start (by decide) (Nat.le_of_ble_eq_true rfl) (fun p e s m below meth c F hE A hAe hsz hA hfr hP hD hS hX ls hl => ?_)
  obtain ⟨hx, hb, hml, hown, hr, hlocks, hts⟩ := id F
  have hl : lv_has ls 3 [(0, .ref mo), (1, .int (a1)), (2, .int (a2))] := hl
  have hP : va_P G.1 kcl [(mo, .inr (5, [.int (w.1), .ref cs, .int (w.2.1), .int (w.2.2.1), .int (w.2.2.2.1)])), (cs, .inl (G.2.1 3, 6, .inr (.inr (.inr (.inr (f))))))] s.heap := hP
  have hD : va_D A [(mo, .inr (5, [.int (w.1), .ref cs, .int (w.2.1), .int (w.2.2.1), .int (w.2.2.2.1)])), (cs, .inl (G.2.1 3, 6, .inr (.inr (.inr (.inr (f))))))] := hD
  have hIT0 := hX
  refine lv_aload_n hx hb dc_X9_takenText_0 rfl (lv_at hl 0 rfl) ?_
  refine lv_iload_n hx hb dc_X9_takenText_1 rfl (lv_at hl 1 rfl) ?_
  refine ky_cS0 (As := [.int (a1)]) F (mt_X9_isNo l (a1)) ks_X9_51 ⟨⟨rfl, rfl⟩, by decide, by decide⟩ rfl hl.1 rfl (Nat.le_of_ble_eq_true rfl) ⟨Nat.le_of_ble_eq_true rfl, Nat.le_of_ble_eq_true rfl⟩ dc_X9_takenText_2 ?_
  refine ky_cVh (As := [.int (fn_X9_isNo (a1))]) (wr := []) F (hE.at hfr hS) hfr (mt_X9_startJ l G (mo) (cs) ((w.1, w.2.1, w.2.2.1, w.2.2.2.1)) (f) (fn_X9_isNo (a1)) s.heap.size ) kv_X9_55 ⟨⟨rfl, rfl⟩, by decide, by decide⟩ rfl hl.1 rfl (Nat.le_of_ble_eq_true rfl) ⟨Nat.le_of_ble_eq_true rfl, Nat.le_of_ble_eq_true rfl⟩ (va_recv hE.1 hP (ci := 5) (q0 := 0) rfl rfl) trivial hP hD hS hA [0, 1] [] rfl rfl (by decide) (by decide) (by decide) dc_X9_takenText_5 ?_
  rintro v9 u9 H locs ⟨rfl, hu9⟩ hP hD hS - hz hk9
  have hu9 := hu9.symm
  subst hu9
  obtain ⟨j_1, hj_1⟩ : ∃ j9, j9 = jst (fn_X9_isNo (a1)) := ⟨_, rfl⟩
  rw [← hj_1] at hP hD ⊢
  try rw [← hj_1] at hw
  have hP : va_P G.1 kcl [(mo, .inr (5, [.int (j_1), .ref cs, .int (w.2.1), .int (w.2.2.1), .int (w.2.2.2.1)])), (cs, .inl (G.2.1 3, 6, .inr (.inr (.inr (.inr (f))))))] H := hP
  have hD : va_D A [(mo, .inr (5, [.int (j_1), .ref cs, .int (w.2.1), .int (w.2.2.1), .int (w.2.2.2.1)])), (cs, .inl (G.2.1 3, 6, .inr (.inr (.inr (.inr (f))))))] := hD
  refine W.widen (k := 0) (n := 0) (Nat.le_refl _) (Nat.le_refl _) ?_
  refine lv_if_eq (tgt := 16) hx hb dc_X9_takenText_8 (by decide) (fun c_2 => ?_) (fun c_2 => ?_)
  · skip
    refine lv_aload_n hx hb dc_X9_takenText_16 rfl (lv_at hl 0 rfl) ?_
    refine va_get (D := G.1) (ci := 5) (v := .ref cs) (C := RX9) (T := TX9) (N := 5) hx hb hts ki_X9 hown hE.1 hP 0 rfl rfl 1 (by decide) (hts _ kw_6_20) (fun _ h9 => h9) rfl dc_X9_takenText_17 ?_
    refine lv_iload_n hx hb dc_X9_takenText_20 rfl (lv_at hl 1 rfl) ?_
    have hv_3 : vp_in (a1) 6 := (lr_start (hj_1.symm.trans c_2))
    have hIT := hIT0.ro hAe hS
    refine va_aldq hx hb hE.1 hP 1 3 rfl rfl hv_3 dc_X9_takenText_21 ?_
    obtain ⟨b_3, hb_3, hI_3, ho_3⟩ := hIT.2 _ (ky_i6 hv_3)
    rw [ky_rf hb_3]
    have hX_3 : ky_It G b_3 ((w.2.2.2.2) (a1).toNatClampNeg) s.heap := by obtain ⟨b9, e9, i9, -⟩ := hIT0.2 _ (ky_i6 hv_3); have z9 : b9 = b_3 := Option.some.inj (e9.symm.trans hb_3); exact z9 ▸ i9
    refine lv_iload_n hx hb dc_X9_takenText_22 rfl (lv_at hl 2 rfl) ?_
    have hI_3 := ky_ro2 hX_3 ho_3 hAe hS
    have hI_3 := ky_ro2 hX_3 ho_3 hAe hS
    have hs_4 := hS.1
    refine ky_cVh (As := [.int (a2)]) (wr := [(mo, .inr (5, [.int (j_1), .ref cs, .int (w.2.1), .int (w.2.2.1), .int (w.2.2.2.1)])), (cs, .inl (G.2.1 3, 6, .inr (.inr (.inr (.inr (f))))))]) F (hE.at hfr hS) hfr (mt_X8_taken l G (b_3) ((w.2.2.2.2) (a1).toNatClampNeg) (a2) H.size (ok_X8_taken _ _)) kv_X9_108 ⟨⟨rfl, rfl⟩, by decide, by decide⟩ rfl hl.1 rfl (Nat.le_of_ble_eq_true rfl) ⟨Nat.le_of_ble_eq_true rfl, Nat.le_of_ble_eq_true rfl⟩ (va_recv hE.1 hI_3 (ci := 4) (q0 := 0) rfl rfl) hI_3 hP hD hS hA [] [0, 1] rfl rfl (by decide) (by decide) (by decide) dc_X9_takenText_23 ?_
    rintro v9 q_4 H locs rfl hP hD hS ⟨hI_4, hd_4⟩ hz hk9
    have hP : va_P G.1 kcl [(mo, .inr (5, [.int (j_1), .ref cs, .int (w.2.1), .int (w.2.2.1), .int (w.2.2.2.1)])), (cs, .inl (G.2.1 3, 6, .inr (.inr (.inr (.inr (f))))))] H := hP
    have hD : va_D A [(mo, .inr (5, [.int (j_1), .ref cs, .int (w.2.1), .int (w.2.2.1), .int (w.2.2.2.1)])), (cs, .inl (G.2.1 3, 6, .inr (.inr (.inr (.inr (f))))))] := hD
    have hI_3 := hI_3.fr hk9
    refine W.widen (k := 1) (n := 2) (Nat.le_refl _) (Nat.le_refl _) ?_
    refine ky_cVh (As := []) (wr := [(mo, .inr (5, [.int (j_1), .ref cs, .int (w.2.1), .int (w.2.2.1), .int (w.2.2.2.1)])), (cs, .inl (G.2.1 3, 6, .inr (.inr (.inr (.inr (f))))))]) F (hE.at hfr hS) hfr (mt_X8_text l G q_4 (fn_X8_taken (a2) ((w.2.2.2.2) (a1).toNatClampNeg)) H.size ) kv_X9_173 ⟨⟨rfl, rfl⟩, Nat.le_of_ble_eq_true rfl, Nat.le_of_ble_eq_true rfl⟩ rfl hl.1 rfl (Nat.le_of_ble_eq_true rfl) ⟨Nat.le_of_ble_eq_true rfl, Nat.le_of_ble_eq_true rfl⟩ (va_recv hE.1 hI_4 (ci := 4) (q0 := 0) rfl rfl) hI_4 hP hD hS hA [] [0, 1] rfl rfl (by decide) (by decide) (by decide) dc_X9_takenText_26 ?_
    rintro v9 ⟨z_5, y_5, n_5, g_5⟩ H locs ⟨rfl, hn_5, hg_5⟩ hP hD hS - hz hk9
    have hP : va_P G.1 kcl [(mo, .inr (5, [.int (j_1), .ref cs, .int (w.2.1), .int (w.2.2.1), .int (w.2.2.2.1)])), (cs, .inl (G.2.1 3, 6, .inr (.inr (.inr (.inr (f)))))), (z_5, .inr (7, [.ref y_5, .int (0), .int (0), .int (0)])), (y_5, .inl (G.2.1 0, n_5, .inl (g_5)))] H := hP
    have hD : va_D A [(mo, .inr (5, [.int (j_1), .ref cs, .int (w.2.1), .int (w.2.2.1), .int (w.2.2.2.1)])), (cs, .inl (G.2.1 3, 6, .inr (.inr (.inr (.inr (f)))))), (z_5, .inr (7, [.ref y_5, .int (0), .int (0), .int (0)])), (y_5, .inl (G.2.1 0, n_5, .inl (g_5)))] := hD
    refine W.widen (k := 9) (n := 196) (by first | exact Nat.le_refl _ | omega) (by first | exact Nat.le_refl _ | omega) ?_
    have hP9 := hP.sub (ws' := [(mo, .inr (5, [.int (j_1), .ref cs, .int (w.2.1), .int (w.2.2.1), .int (w.2.2.2.1)])), (cs, .inl (G.2.1 3, 6, .inr (.inr (.inr (.inr (f))))))]) [0, 1] rfl
    have hD9 := hD.sub (ws' := [(mo, .inr (5, [.int (j_1), .ref cs, .int (w.2.1), .int (w.2.2.1), .int (w.2.2.2.1)])), (cs, .inl (G.2.1 3, 6, .inr (.inr (.inr (.inr (f))))))]) [0, 1] (by decide) rfl
    refine W.widen (k := 9) (n := 196) (Nat.le_of_ble_eq_true rfl) (Nat.le_of_ble_eq_true rfl) ?_
    exact W.aret (v := .ref z_5) hx hb hr (Or.inl ⟨_, rfl⟩) (Or.inr ⟨_, rfl⟩) (fun t ht hW => ⟨⟨_, j_1, rfl, ⟨_, rfl⟩, by rw [ht]; exact hP9, hD9, by rw [ht]; exact hIT0.ro hAe hS⟩, hS.F ht⟩) hS.2.2 dc_X9_takenText_29
  · skip
    obtain ⟨k_3, hR_3, hZ_3⟩ := ky_s7 hE
    refine va_ldcS hx hb hown hR_3 dc_X9_takenText_11 ?_
    refine lv_goto (tgt := 29) hx hb dc_X9_takenText_13 (by decide) ?_
    have hP9 := hP.sub (ws' := [(mo, .inr (5, [.int (j_1), .ref cs, .int (w.2.1), .int (w.2.2.1), .int (w.2.2.2.1)])), (cs, .inl (G.2.1 3, 6, .inr (.inr (.inr (.inr (f))))))]) [0, 1] rfl
    have hD9 := hD.sub (ws' := [(mo, .inr (5, [.int (j_1), .ref cs, .int (w.2.1), .int (w.2.2.1), .int (w.2.2.2.1)])), (cs, .inl (G.2.1 3, 6, .inr (.inr (.inr (.inr (f))))))]) [0, 1] (by decide) rfl
    refine W.widen (k := 9) (n := 196) (Nat.le_of_ble_eq_true rfl) (Nat.le_of_ble_eq_true rfl) ?_
    exact W.aret (v := .ref k_3) hx hb hr (Or.inl ⟨_, rfl⟩) (Or.inr ⟨_, rfl⟩) (fun t ht hW => ⟨⟨_, j_1, rfl, ⟨_, rfl⟩, by rw [ht]; exact hP9, hD9, by rw [ht]; exact hIT0.ro hAe hS⟩, hS.F ht⟩) hS.2.2 dc_X9_takenText_29
set_option linter.constructorNameAsVariable false in
set_option maxHeartbeats 4000000 in
set_option maxRecDepth 100000 in
theorem mt_X9_floorOf (l : Launch) (G : ky_G) (mo : Nat) (cs : Nat) (N : Nat → Prop) (w : ky_MV) (f : Nat → Option Nat) (a1 : Int32) (sz : Nat)  : Met l my_X9_floorOf (.code my_X9_floorOf prog_10_method_64_code 2 (Option.some (Jvm.ClassFile.FieldType.object "java/lang/String")) :: ky_B) { frames := 8, cells := 9, slots := 196, locals := 197 } (ky_P G [.ref mo, .int (a1)] (ky_WM G mo cs w f) sz (fun H => ky_IT G mo cs N f w.2.2.2.2 H)) (ky_Q (S := Int32) G (va_A (ky_WM G mo cs w f) sz) (fun v _ => ∃ z : Nat, v = some (.ref z)) (fun u => ky_WM G mo cs (u, w.2) f) (fun _ H => ky_IT G mo cs N f w.2.2.2.2 H)) (9) (196) (va_A (ky_WM G mo cs w f) sz) := by
  refine ky_start (by decide) (Nat.le_of_ble_eq_true rfl) (fun p e s m below meth c F hE A hAe hsz hA hfr hP hD hS hX ls hl => ?_)
  obtain ⟨hx, hb, hml, hown, hr, hlocks, hts⟩ := id F
  have hl : lv_has ls 2 [(0, .ref mo), (1, .int (a1))] := hl
  have hP : va_P G.1 kcl [(mo, .inr (5, [.int (w.1), .ref cs, .int (w.2.1), .int (w.2.2.1), .int (w.2.2.2.1)])), (cs, .inl (G.2.1 3, 6, .inr (.inr (.inr (.inr (f))))))] s.heap := hP
  have hD : va_D A [(mo, .inr (5, [.int (w.1), .ref cs, .int (w.2.1), .int (w.2.2.1), .int (w.2.2.2.1)])), (cs, .inl (G.2.1 3, 6, .inr (.inr (.inr (.inr (f))))))] := hD
  have hIT0 := hX
  refine lv_aload_n hx hb dc_X9_floorOf_0 rfl (lv_at hl 0 rfl) ?_
  refine lv_iload_n hx hb dc_X9_floorOf_1 rfl (lv_at hl 1 rfl) ?_
  refine lv_iconst (v := 0) hx hb dc_X9_floorOf_2 (by decide) ?_
  have hIT := hIT0.ro hAe hS
  refine ky_cVh (As := [.int (a1), .int ((0 : Int32))]) (wr := []) F (hE.at hfr hS) hfr (mt_X9_takenText l G mo cs N w f a1 (0 : Int32) s.heap.size ) kv_X9_247 ⟨⟨rfl, rfl⟩, Nat.le_of_ble_eq_true rfl, Nat.le_of_ble_eq_true rfl⟩ rfl hl.1 rfl (Nat.le_of_ble_eq_true rfl) ⟨Nat.le_of_ble_eq_true rfl, Nat.le_of_ble_eq_true rfl⟩ (va_recv hE.1 hP (ci := 5) (q0 := 0) rfl rfl) hIT hP hD hS hA [0, 1] [] rfl rfl (by decide) (by decide) (by decide) dc_X9_floorOf_3 ?_
  rintro v9 th_0 H locs ⟨z_0, rfl⟩ hP hD hS - hz hk9
  have hP : va_P G.1 kcl [(mo, .inr (5, [.int (th_0), .ref cs, .int (w.2.1), .int (w.2.2.1), .int (w.2.2.2.1)])), (cs, .inl (G.2.1 3, 6, .inr (.inr (.inr (.inr (f))))))] H := hP
  have hD : va_D A [(mo, .inr (5, [.int (th_0), .ref cs, .int (w.2.1), .int (w.2.2.1), .int (w.2.2.2.1)])), (cs, .inl (G.2.1 3, 6, .inr (.inr (.inr (.inr (f))))))] := hD
  refine W.widen (k := 9) (n := 196) (by first | exact Nat.le_refl _ | omega) (by first | exact Nat.le_refl _ | omega) ?_
  have hP9 := hP.sub (ws' := [(mo, .inr (5, [.int (th_0), .ref cs, .int (w.2.1), .int (w.2.2.1), .int (w.2.2.2.1)])), (cs, .inl (G.2.1 3, 6, .inr (.inr (.inr (.inr (f))))))]) [0, 1] rfl
  have hD9 := hD.sub (ws' := [(mo, .inr (5, [.int (th_0), .ref cs, .int (w.2.1), .int (w.2.2.1), .int (w.2.2.2.1)])), (cs, .inl (G.2.1 3, 6, .inr (.inr (.inr (.inr (f))))))]) [0, 1] (by decide) rfl
  refine W.widen (k := 9) (n := 196) (Nat.le_of_ble_eq_true rfl) (Nat.le_of_ble_eq_true rfl) ?_
  exact W.aret (v := .ref z_0) hx hb hr (Or.inl ⟨_, rfl⟩) (Or.inr ⟨_, rfl⟩) (fun t ht hW => ⟨⟨_, th_0, rfl, ⟨_, rfl⟩, by rw [ht]; exact hP9, hD9, by rw [ht]; exact hIT0.ro hAe hS⟩, hS.F ht⟩) hS.2.2 dc_X9_floorOf_6
set_option linter.constructorNameAsVariable false in
set_option maxHeartbeats 4000000 in
set_option maxRecDepth 100000 in
theorem mt_X9_ceilOf (l : Launch) (G : ky_G) (mo : Nat) (cs : Nat) (N : Nat → Prop) (w : ky_MV) (f : Nat → Option Nat) (a1 : Int32) (sz : Nat)  : Met l my_X9_ceilOf (.code my_X9_ceilOf prog_10_method_65_code 2 (Option.some (Jvm.ClassFile.FieldType.object "java/lang/String")) :: ky_B) { frames := 8, cells := 9, slots := 196, locals := 197 } (ky_P G [.ref mo, .int (a1)] (ky_WM G mo cs w f) sz (fun H => ky_IT G mo cs N f w.2.2.2.2 H)) (ky_Q (S := Int32) G (va_A (ky_WM G mo cs w f) sz) (fun v _ => ∃ z : Nat, v = some (.ref z)) (fun u => ky_WM G mo cs (u, w.2) f) (fun _ H => ky_IT G mo cs N f w.2.2.2.2 H)) (9) (196) (va_A (ky_WM G mo cs w f) sz) := by
  refine ky_start (by decide) (Nat.le_of_ble_eq_true rfl) (fun p e s m below meth c F hE A hAe hsz hA hfr hP hD hS hX ls hl => ?_)
  obtain ⟨hx, hb, hml, hown, hr, hlocks, hts⟩ := id F
  have hl : lv_has ls 2 [(0, .ref mo), (1, .int (a1))] := hl
  have hP : va_P G.1 kcl [(mo, .inr (5, [.int (w.1), .ref cs, .int (w.2.1), .int (w.2.2.1), .int (w.2.2.2.1)])), (cs, .inl (G.2.1 3, 6, .inr (.inr (.inr (.inr (f))))))] s.heap := hP
  have hD : va_D A [(mo, .inr (5, [.int (w.1), .ref cs, .int (w.2.1), .int (w.2.2.1), .int (w.2.2.2.1)])), (cs, .inl (G.2.1 3, 6, .inr (.inr (.inr (.inr (f))))))] := hD
  have hIT0 := hX
  refine lv_aload_n hx hb dc_X9_ceilOf_0 rfl (lv_at hl 0 rfl) ?_
  refine lv_iload_n hx hb dc_X9_ceilOf_1 rfl (lv_at hl 1 rfl) ?_
  refine lv_iconst (v := 1) hx hb dc_X9_ceilOf_2 (by decide) ?_
  have hIT := hIT0.ro hAe hS
  refine ky_cVh (As := [.int (a1), .int ((1 : Int32))]) (wr := []) F (hE.at hfr hS) hfr (mt_X9_takenText l G mo cs N w f a1 (1 : Int32) s.heap.size ) kv_X9_247 ⟨⟨rfl, rfl⟩, Nat.le_of_ble_eq_true rfl, Nat.le_of_ble_eq_true rfl⟩ rfl hl.1 rfl (Nat.le_of_ble_eq_true rfl) ⟨Nat.le_of_ble_eq_true rfl, Nat.le_of_ble_eq_true rfl⟩ (va_recv hE.1 hP (ci := 5) (q0 := 0) rfl rfl) hIT hP hD hS hA [0, 1] [] rfl rfl (by decide) (by decide) (by decide) dc_X9_ceilOf_3 ?_
  rintro v9 th_0 H locs ⟨z_0, rfl⟩ hP hD hS - hz hk9
  have hP : va_P G.1 kcl [(mo, .inr (5, [.int (th_0), .ref cs, .int (w.2.1), .int (w.2.2.1), .int (w.2.2.2.1)])), (cs, .inl (G.2.1 3, 6, .inr (.inr (.inr (.inr (f))))))] H := hP
  have hD : va_D A [(mo, .inr (5, [.int (th_0), .ref cs, .int (w.2.1), .int (w.2.2.1), .int (w.2.2.2.1)])), (cs, .inl (G.2.1 3, 6, .inr (.inr (.inr (.inr (f))))))] := hD
  refine W.widen (k := 9) (n := 196) (by first | exact Nat.le_refl _ | omega) (by first | exact Nat.le_refl _ | omega) ?_
  have hP9 := hP.sub (ws' := [(mo, .inr (5, [.int (th_0), .ref cs, .int (w.2.1), .int (w.2.2.1), .int (w.2.2.2.1)])), (cs, .inl (G.2.1 3, 6, .inr (.inr (.inr (.inr (f))))))]) [0, 1] rfl
  have hD9 := hD.sub (ws' := [(mo, .inr (5, [.int (th_0), .ref cs, .int (w.2.1), .int (w.2.2.1), .int (w.2.2.2.1)])), (cs, .inl (G.2.1 3, 6, .inr (.inr (.inr (.inr (f))))))]) [0, 1] (by decide) rfl
  refine W.widen (k := 9) (n := 196) (Nat.le_of_ble_eq_true rfl) (Nat.le_of_ble_eq_true rfl) ?_
  exact W.aret (v := .ref z_0) hx hb hr (Or.inl ⟨_, rfl⟩) (Or.inr ⟨_, rfl⟩) (fun t ht hW => ⟨⟨_, th_0, rfl, ⟨_, rfl⟩, by rw [ht]; exact hP9, hD9, by rw [ht]; exact hIT0.ro hAe hS⟩, hS.F ht⟩) hS.2.2 dc_X9_ceilOf_6
set_option linter.constructorNameAsVariable false in
set_option maxHeartbeats 4000000 in
set_option maxRecDepth 100000 in
theorem mt_X9_rintOf (l : Launch) (G : ky_G) (mo : Nat) (cs : Nat) (N : Nat → Prop) (w : ky_MV) (f : Nat → Option Nat) (a1 : Int32) (sz : Nat)  : Met l my_X9_rintOf (.code my_X9_rintOf prog_10_method_66_code 2 (Option.some (Jvm.ClassFile.FieldType.object "java/lang/String")) :: ky_B) { frames := 8, cells := 9, slots := 196, locals := 197 } (ky_P G [.ref mo, .int (a1)] (ky_WM G mo cs w f) sz (fun H => ky_IT G mo cs N f w.2.2.2.2 H)) (ky_Q (S := Int32) G (va_A (ky_WM G mo cs w f) sz) (fun v _ => ∃ z : Nat, v = some (.ref z)) (fun u => ky_WM G mo cs (u, w.2) f) (fun _ H => ky_IT G mo cs N f w.2.2.2.2 H)) (9) (196) (va_A (ky_WM G mo cs w f) sz) := by
  refine ky_start (by decide) (Nat.le_of_ble_eq_true rfl) (fun p e s m below meth c F hE A hAe hsz hA hfr hP hD hS hX ls hl => ?_)
  obtain ⟨hx, hb, hml, hown, hr, hlocks, hts⟩ := id F
  have hl : lv_has ls 2 [(0, .ref mo), (1, .int (a1))] := hl
  have hP : va_P G.1 kcl [(mo, .inr (5, [.int (w.1), .ref cs, .int (w.2.1), .int (w.2.2.1), .int (w.2.2.2.1)])), (cs, .inl (G.2.1 3, 6, .inr (.inr (.inr (.inr (f))))))] s.heap := hP
  have hD : va_D A [(mo, .inr (5, [.int (w.1), .ref cs, .int (w.2.1), .int (w.2.2.1), .int (w.2.2.2.1)])), (cs, .inl (G.2.1 3, 6, .inr (.inr (.inr (.inr (f))))))] := hD
  have hIT0 := hX
  refine lv_aload_n hx hb dc_X9_rintOf_0 rfl (lv_at hl 0 rfl) ?_
  refine lv_iload_n hx hb dc_X9_rintOf_1 rfl (lv_at hl 1 rfl) ?_
  refine lv_iconst (v := 2) hx hb dc_X9_rintOf_2 (by decide) ?_
  have hIT := hIT0.ro hAe hS
  refine ky_cVh (As := [.int (a1), .int ((2 : Int32))]) (wr := []) F (hE.at hfr hS) hfr (mt_X9_takenText l G mo cs N w f a1 (2 : Int32) s.heap.size ) kv_X9_247 ⟨⟨rfl, rfl⟩, Nat.le_of_ble_eq_true rfl, Nat.le_of_ble_eq_true rfl⟩ rfl hl.1 rfl (Nat.le_of_ble_eq_true rfl) ⟨Nat.le_of_ble_eq_true rfl, Nat.le_of_ble_eq_true rfl⟩ (va_recv hE.1 hP (ci := 5) (q0 := 0) rfl rfl) hIT hP hD hS hA [0, 1] [] rfl rfl (by decide) (by decide) (by decide) dc_X9_rintOf_3 ?_
  rintro v9 th_0 H locs ⟨z_0, rfl⟩ hP hD hS - hz hk9
  have hP : va_P G.1 kcl [(mo, .inr (5, [.int (th_0), .ref cs, .int (w.2.1), .int (w.2.2.1), .int (w.2.2.2.1)])), (cs, .inl (G.2.1 3, 6, .inr (.inr (.inr (.inr (f))))))] H := hP
  have hD : va_D A [(mo, .inr (5, [.int (th_0), .ref cs, .int (w.2.1), .int (w.2.2.1), .int (w.2.2.2.1)])), (cs, .inl (G.2.1 3, 6, .inr (.inr (.inr (.inr (f))))))] := hD
  refine W.widen (k := 9) (n := 196) (by first | exact Nat.le_refl _ | omega) (by first | exact Nat.le_refl _ | omega) ?_
  have hP9 := hP.sub (ws' := [(mo, .inr (5, [.int (th_0), .ref cs, .int (w.2.1), .int (w.2.2.1), .int (w.2.2.2.1)])), (cs, .inl (G.2.1 3, 6, .inr (.inr (.inr (.inr (f))))))]) [0, 1] rfl
  have hD9 := hD.sub (ws' := [(mo, .inr (5, [.int (th_0), .ref cs, .int (w.2.1), .int (w.2.2.1), .int (w.2.2.2.1)])), (cs, .inl (G.2.1 3, 6, .inr (.inr (.inr (.inr (f))))))]) [0, 1] (by decide) rfl
  refine W.widen (k := 9) (n := 196) (Nat.le_of_ble_eq_true rfl) (Nat.le_of_ble_eq_true rfl) ?_
  exact W.aret (v := .ref z_0) hx hb hr (Or.inl ⟨_, rfl⟩) (Or.inr ⟨_, rfl⟩) (fun t ht hW => ⟨⟨_, th_0, rfl, ⟨_, rfl⟩, by rw [ht]; exact hP9, hD9, by rw [ht]; exact hIT0.ro hAe hS⟩, hS.F ht⟩) hS.2.2 dc_X9_rintOf_6
set_option linter.constructorNameAsVariable false in
set_option maxHeartbeats 4000000 in
set_option maxRecDepth 100000 in
theorem mt_X9_stepOf (l : Launch) (G : ky_G) (mo : Nat) (cs : Nat) (N : Nat → Prop) (w : ky_MV) (f : Nat → Option Nat) (a1 : Int32) (sz : Nat)  : Met l my_X9_stepOf (.code my_X9_stepOf prog_10_method_67_code 2 (Option.some (Jvm.ClassFile.FieldType.object "java/lang/String")) :: ky_B) { frames := 7, cells := 9, slots := 196, locals := 175 } (ky_P G [.ref mo, .int (a1)] (ky_WM G mo cs w f) sz (fun H => ky_IT G mo cs N f w.2.2.2.2 H)) (ky_Q (S := Int32) G (va_A (ky_WM G mo cs w f) sz) (fun v _ => ∃ z : Nat, v = some (.ref z)) (fun u => ky_WM G mo cs (u, w.2) f) (fun _ H => ky_IT G mo cs N f w.2.2.2.2 H)) (9) (196) (va_A (ky_WM G mo cs w f) sz) := by
  refine ky_start (by decide) (Nat.le_of_ble_eq_true rfl) (fun p e s m below meth c F hE A hAe hsz hA hfr hP hD hS hX ls hl => ?_)
  obtain ⟨hx, hb, hml, hown, hr, hlocks, hts⟩ := id F
  have hl : lv_has ls 2 [(0, .ref mo), (1, .int (a1))] := hl
  have hP : va_P G.1 kcl [(mo, .inr (5, [.int (w.1), .ref cs, .int (w.2.1), .int (w.2.2.1), .int (w.2.2.2.1)])), (cs, .inl (G.2.1 3, 6, .inr (.inr (.inr (.inr (f))))))] s.heap := hP
  have hD : va_D A [(mo, .inr (5, [.int (w.1), .ref cs, .int (w.2.1), .int (w.2.2.1), .int (w.2.2.2.1)])), (cs, .inl (G.2.1 3, 6, .inr (.inr (.inr (.inr (f))))))] := hD
  have hIT0 := hX
  refine lv_aload_n hx hb dc_X9_stepOf_0 rfl (lv_at hl 0 rfl) ?_
  refine lv_iload_n hx hb dc_X9_stepOf_1 rfl (lv_at hl 1 rfl) ?_
  refine ky_cS0 (As := [.int (a1)]) F (mt_X9_isNo l (a1)) ks_X9_51 ⟨⟨rfl, rfl⟩, by decide, by decide⟩ rfl hl.1 rfl (Nat.le_of_ble_eq_true rfl) ⟨Nat.le_of_ble_eq_true rfl, Nat.le_of_ble_eq_true rfl⟩ dc_X9_stepOf_2 ?_
  refine ky_cVh (As := [.int (fn_X9_isNo (a1))]) (wr := []) F (hE.at hfr hS) hfr (mt_X9_startJ l G (mo) (cs) ((w.1, w.2.1, w.2.2.1, w.2.2.2.1)) (f) (fn_X9_isNo (a1)) s.heap.size ) kv_X9_55 ⟨⟨rfl, rfl⟩, by decide, by decide⟩ rfl hl.1 rfl (Nat.le_of_ble_eq_true rfl) ⟨Nat.le_of_ble_eq_true rfl, Nat.le_of_ble_eq_true rfl⟩ (va_recv hE.1 hP (ci := 5) (q0 := 0) rfl rfl) trivial hP hD hS hA [0, 1] [] rfl rfl (by decide) (by decide) (by decide) dc_X9_stepOf_5 ?_
  rintro v9 u9 H locs ⟨rfl, hu9⟩ hP hD hS - hz hk9
  have hu9 := hu9.symm
  subst hu9
  obtain ⟨j_1, hj_1⟩ : ∃ j9, j9 = jst (fn_X9_isNo (a1)) := ⟨_, rfl⟩
  rw [← hj_1] at hP hD ⊢
  try rw [← hj_1] at hw
  have hP : va_P G.1 kcl [(mo, .inr (5, [.int (j_1), .ref cs, .int (w.2.1), .int (w.2.2.1), .int (w.2.2.2.1)])), (cs, .inl (G.2.1 3, 6, .inr (.inr (.inr (.inr (f))))))] H := hP
  have hD : va_D A [(mo, .inr (5, [.int (j_1), .ref cs, .int (w.2.1), .int (w.2.2.1), .int (w.2.2.2.1)])), (cs, .inl (G.2.1 3, 6, .inr (.inr (.inr (.inr (f))))))] := hD
  refine W.widen (k := 0) (n := 0) (Nat.le_refl _) (Nat.le_refl _) ?_
  refine lv_if_eq (tgt := 16) hx hb dc_X9_stepOf_8 (by decide) (fun c_2 => ?_) (fun c_2 => ?_)
  · skip
    refine lv_aload_n hx hb dc_X9_stepOf_16 rfl (lv_at hl 0 rfl) ?_
    refine va_get (D := G.1) (ci := 5) (v := .ref cs) (C := RX9) (T := TX9) (N := 5) hx hb hts ki_X9 hown hE.1 hP 0 rfl rfl 1 (by decide) (hts _ kw_6_20) (fun _ h9 => h9) rfl dc_X9_stepOf_17 ?_
    refine lv_iload_n hx hb dc_X9_stepOf_20 rfl (lv_at hl 1 rfl) ?_
    have hv_3 : vp_in (a1) 6 := (lr_start (hj_1.symm.trans c_2))
    have hIT := hIT0.ro hAe hS
    refine va_aldq hx hb hE.1 hP 1 3 rfl rfl hv_3 dc_X9_stepOf_21 ?_
    obtain ⟨b_3, hb_3, hI_3, ho_3⟩ := hIT.2 _ (ky_i6 hv_3)
    rw [ky_rf hb_3]
    have hX_3 : ky_It G b_3 ((w.2.2.2.2) (a1).toNatClampNeg) s.heap := by obtain ⟨b9, e9, i9, -⟩ := hIT0.2 _ (ky_i6 hv_3); have z9 : b9 = b_3 := Option.some.inj (e9.symm.trans hb_3); exact z9 ▸ i9
    have hI_3 := ky_ro2 hX_3 ho_3 hAe hS
    have hI_3 := ky_ro2 hX_3 ho_3 hAe hS
    have hs_4 := hS.1
    refine ky_cVh (As := []) (wr := [(mo, .inr (5, [.int (j_1), .ref cs, .int (w.2.1), .int (w.2.2.1), .int (w.2.2.2.1)])), (cs, .inl (G.2.1 3, 6, .inr (.inr (.inr (.inr (f))))))]) F (hE.at hfr hS) hfr (mt_X8_step l G (b_3) ((w.2.2.2.2) (a1).toNatClampNeg)  H.size (ok_X8_step _)) kv_X9_134 ⟨⟨rfl, rfl⟩, by decide, by decide⟩ rfl hl.1 rfl (Nat.le_of_ble_eq_true rfl) ⟨Nat.le_of_ble_eq_true rfl, Nat.le_of_ble_eq_true rfl⟩ (va_recv hE.1 hI_3 (ci := 4) (q0 := 0) rfl rfl) hI_3 hP hD hS hA [] [0, 1] rfl rfl (by decide) (by decide) (by decide) dc_X9_stepOf_22 ?_
    rintro v9 q_4 H locs rfl hP hD hS ⟨hI_4, hd_4⟩ hz hk9
    have hP : va_P G.1 kcl [(mo, .inr (5, [.int (j_1), .ref cs, .int (w.2.1), .int (w.2.2.1), .int (w.2.2.2.1)])), (cs, .inl (G.2.1 3, 6, .inr (.inr (.inr (.inr (f))))))] H := hP
    have hD : va_D A [(mo, .inr (5, [.int (j_1), .ref cs, .int (w.2.1), .int (w.2.2.1), .int (w.2.2.2.1)])), (cs, .inl (G.2.1 3, 6, .inr (.inr (.inr (.inr (f))))))] := hD
    have hI_3 := hI_3.fr hk9
    refine W.widen (k := 1) (n := 2) (Nat.le_refl _) (Nat.le_refl _) ?_
    refine ky_cVh (As := []) (wr := [(mo, .inr (5, [.int (j_1), .ref cs, .int (w.2.1), .int (w.2.2.1), .int (w.2.2.2.1)])), (cs, .inl (G.2.1 3, 6, .inr (.inr (.inr (.inr (f))))))]) F (hE.at hfr hS) hfr (mt_X8_text l G q_4 (fn_X8_step ((w.2.2.2.2) (a1).toNatClampNeg)) H.size ) kv_X9_173 ⟨⟨rfl, rfl⟩, Nat.le_of_ble_eq_true rfl, Nat.le_of_ble_eq_true rfl⟩ rfl hl.1 rfl (Nat.le_of_ble_eq_true rfl) ⟨Nat.le_of_ble_eq_true rfl, Nat.le_of_ble_eq_true rfl⟩ (va_recv hE.1 hI_4 (ci := 4) (q0 := 0) rfl rfl) hI_4 hP hD hS hA [] [0, 1] rfl rfl (by decide) (by decide) (by decide) dc_X9_stepOf_25 ?_
    rintro v9 ⟨z_5, y_5, n_5, g_5⟩ H locs ⟨rfl, hn_5, hg_5⟩ hP hD hS - hz hk9
    have hP : va_P G.1 kcl [(mo, .inr (5, [.int (j_1), .ref cs, .int (w.2.1), .int (w.2.2.1), .int (w.2.2.2.1)])), (cs, .inl (G.2.1 3, 6, .inr (.inr (.inr (.inr (f)))))), (z_5, .inr (7, [.ref y_5, .int (0), .int (0), .int (0)])), (y_5, .inl (G.2.1 0, n_5, .inl (g_5)))] H := hP
    have hD : va_D A [(mo, .inr (5, [.int (j_1), .ref cs, .int (w.2.1), .int (w.2.2.1), .int (w.2.2.2.1)])), (cs, .inl (G.2.1 3, 6, .inr (.inr (.inr (.inr (f)))))), (z_5, .inr (7, [.ref y_5, .int (0), .int (0), .int (0)])), (y_5, .inl (G.2.1 0, n_5, .inl (g_5)))] := hD
    refine W.widen (k := 9) (n := 196) (by first | exact Nat.le_refl _ | omega) (by first | exact Nat.le_refl _ | omega) ?_
    have hP9 := hP.sub (ws' := [(mo, .inr (5, [.int (j_1), .ref cs, .int (w.2.1), .int (w.2.2.1), .int (w.2.2.2.1)])), (cs, .inl (G.2.1 3, 6, .inr (.inr (.inr (.inr (f))))))]) [0, 1] rfl
    have hD9 := hD.sub (ws' := [(mo, .inr (5, [.int (j_1), .ref cs, .int (w.2.1), .int (w.2.2.1), .int (w.2.2.2.1)])), (cs, .inl (G.2.1 3, 6, .inr (.inr (.inr (.inr (f))))))]) [0, 1] (by decide) rfl
    refine W.widen (k := 9) (n := 196) (Nat.le_of_ble_eq_true rfl) (Nat.le_of_ble_eq_true rfl) ?_
    exact W.aret (v := .ref z_5) hx hb hr (Or.inl ⟨_, rfl⟩) (Or.inr ⟨_, rfl⟩) (fun t ht hW => ⟨⟨_, j_1, rfl, ⟨_, rfl⟩, by rw [ht]; exact hP9, hD9, by rw [ht]; exact hIT0.ro hAe hS⟩, hS.F ht⟩) hS.2.2 dc_X9_stepOf_28
  · skip
    obtain ⟨k_3, hR_3, hZ_3⟩ := ky_s7 hE
    refine va_ldcS hx hb hown hR_3 dc_X9_stepOf_11 ?_
    refine lv_goto (tgt := 28) hx hb dc_X9_stepOf_13 (by decide) ?_
    have hP9 := hP.sub (ws' := [(mo, .inr (5, [.int (j_1), .ref cs, .int (w.2.1), .int (w.2.2.1), .int (w.2.2.2.1)])), (cs, .inl (G.2.1 3, 6, .inr (.inr (.inr (.inr (f))))))]) [0, 1] rfl
    have hD9 := hD.sub (ws' := [(mo, .inr (5, [.int (j_1), .ref cs, .int (w.2.1), .int (w.2.2.1), .int (w.2.2.2.1)])), (cs, .inl (G.2.1 3, 6, .inr (.inr (.inr (.inr (f))))))]) [0, 1] (by decide) rfl
    refine W.widen (k := 9) (n := 196) (Nat.le_of_ble_eq_true rfl) (Nat.le_of_ble_eq_true rfl) ?_
    exact W.aret (v := .ref k_3) hx hb hr (Or.inl ⟨_, rfl⟩) (Or.inr ⟨_, rfl⟩) (fun t ht hW => ⟨⟨_, j_1, rfl, ⟨_, rfl⟩, by rw [ht]; exact hP9, hD9, by rw [ht]; exact hIT0.ro hAe hS⟩, hS.F ht⟩) hS.2.2 dc_X9_stepOf_28
set_option linter.constructorNameAsVariable false in
set_option maxHeartbeats 4000000 in
set_option maxRecDepth 100000 in
theorem mt_X9_nextOf (l : Launch) (G : ky_G) (mo : Nat) (cs : Nat) (N : Nat → Prop) (w : ky_MV) (f : Nat → Option Nat) (a1 : Int32) (a2 : Int32) (sz : Nat)  : Met l my_X9_nextOf (.code my_X9_nextOf prog_10_method_68_code 3 (Option.some (Jvm.ClassFile.FieldType.object "java/lang/String")) :: ky_B) { frames := 7, cells := 11, slots := 200, locals := 175 } (ky_P G [.ref mo, .int (a1), .int (a2)] (ky_WM G mo cs w f) sz (fun H => ky_IT G mo cs N f w.2.2.2.2 H)) (ky_Q (S := Int32) G (va_A (ky_WM G mo cs w f) sz) (fun v _ => ∃ z : Nat, v = some (.ref z)) (fun u => ky_WM G mo cs (u, w.2) f) (fun _ H => ky_IT G mo cs N f w.2.2.2.2 H)) (11) (200) (va_A (ky_WM G mo cs w f) sz) := by
  refine ky_start (by decide) (Nat.le_of_ble_eq_true rfl) (fun p e s m below meth c F hE A hAe hsz hA hfr hP hD hS hX ls hl => ?_)
  obtain ⟨hx, hb, hml, hown, hr, hlocks, hts⟩ := id F
  have hl : lv_has ls 3 [(0, .ref mo), (1, .int (a1)), (2, .int (a2))] := hl
  have hP : va_P G.1 kcl [(mo, .inr (5, [.int (w.1), .ref cs, .int (w.2.1), .int (w.2.2.1), .int (w.2.2.2.1)])), (cs, .inl (G.2.1 3, 6, .inr (.inr (.inr (.inr (f))))))] s.heap := hP
  have hD : va_D A [(mo, .inr (5, [.int (w.1), .ref cs, .int (w.2.1), .int (w.2.2.1), .int (w.2.2.2.1)])), (cs, .inl (G.2.1 3, 6, .inr (.inr (.inr (.inr (f))))))] := hD
  have hIT0 := hX
  refine lv_aload_n hx hb dc_X9_nextOf_0 rfl (lv_at hl 0 rfl) ?_
  refine lv_iload_n hx hb dc_X9_nextOf_1 rfl (lv_at hl 1 rfl) ?_
  refine ky_cS0 (As := [.int (a1)]) F (mt_X9_isNo l (a1)) ks_X9_51 ⟨⟨rfl, rfl⟩, by decide, by decide⟩ rfl hl.1 rfl (Nat.le_of_ble_eq_true rfl) ⟨Nat.le_of_ble_eq_true rfl, Nat.le_of_ble_eq_true rfl⟩ dc_X9_nextOf_2 ?_
  refine ky_cVh (As := [.int (fn_X9_isNo (a1))]) (wr := []) F (hE.at hfr hS) hfr (mt_X9_startJ l G (mo) (cs) ((w.1, w.2.1, w.2.2.1, w.2.2.2.1)) (f) (fn_X9_isNo (a1)) s.heap.size ) kv_X9_55 ⟨⟨rfl, rfl⟩, by decide, by decide⟩ rfl hl.1 rfl (Nat.le_of_ble_eq_true rfl) ⟨Nat.le_of_ble_eq_true rfl, Nat.le_of_ble_eq_true rfl⟩ (va_recv hE.1 hP (ci := 5) (q0 := 0) rfl rfl) trivial hP hD hS hA [0, 1] [] rfl rfl (by decide) (by decide) (by decide) dc_X9_nextOf_5 ?_
  rintro v9 u9 H locs ⟨rfl, hu9⟩ hP hD hS - hz hk9
  have hu9 := hu9.symm
  subst hu9
  obtain ⟨j_1, hj_1⟩ : ∃ j9, j9 = jst (fn_X9_isNo (a1)) := ⟨_, rfl⟩
  rw [← hj_1] at hP hD ⊢
  try rw [← hj_1] at hw
  have hP : va_P G.1 kcl [(mo, .inr (5, [.int (j_1), .ref cs, .int (w.2.1), .int (w.2.2.1), .int (w.2.2.2.1)])), (cs, .inl (G.2.1 3, 6, .inr (.inr (.inr (.inr (f))))))] H := hP
  have hD : va_D A [(mo, .inr (5, [.int (j_1), .ref cs, .int (w.2.1), .int (w.2.2.1), .int (w.2.2.2.1)])), (cs, .inl (G.2.1 3, 6, .inr (.inr (.inr (.inr (f))))))] := hD
  refine W.widen (k := 0) (n := 0) (Nat.le_refl _) (Nat.le_refl _) ?_
  refine lv_if_eq (tgt := 16) hx hb dc_X9_nextOf_8 (by decide) (fun c_2 => ?_) (fun c_2 => ?_)
  · skip
    refine lv_aload_n hx hb dc_X9_nextOf_16 rfl (lv_at hl 0 rfl) ?_
    refine va_get (D := G.1) (ci := 5) (v := .ref cs) (C := RX9) (T := TX9) (N := 5) hx hb hts ki_X9 hown hE.1 hP 0 rfl rfl 1 (by decide) (hts _ kw_6_20) (fun _ h9 => h9) rfl dc_X9_nextOf_17 ?_
    refine lv_iload_n hx hb dc_X9_nextOf_20 rfl (lv_at hl 1 rfl) ?_
    have hv_3 : vp_in (a1) 6 := (lr_start (hj_1.symm.trans c_2))
    have hIT := hIT0.ro hAe hS
    refine va_aldq hx hb hE.1 hP 1 3 rfl rfl hv_3 dc_X9_nextOf_21 ?_
    obtain ⟨b_3, hb_3, hI_3, ho_3⟩ := hIT.2 _ (ky_i6 hv_3)
    rw [ky_rf hb_3]
    have hX_3 : ky_It G b_3 ((w.2.2.2.2) (a1).toNatClampNeg) s.heap := by obtain ⟨b9, e9, i9, -⟩ := hIT0.2 _ (ky_i6 hv_3); have z9 : b9 = b_3 := Option.some.inj (e9.symm.trans hb_3); exact z9 ▸ i9
    refine lv_iload_n hx hb dc_X9_nextOf_22 rfl (lv_at hl 2 rfl) ?_
    have hI_3 := ky_ro2 hX_3 ho_3 hAe hS
    have hI_3 := ky_ro2 hX_3 ho_3 hAe hS
    have hs_4 := hS.1
    refine ky_cVh (As := [.int (a2)]) (wr := [(mo, .inr (5, [.int (j_1), .ref cs, .int (w.2.1), .int (w.2.2.1), .int (w.2.2.2.1)])), (cs, .inl (G.2.1 3, 6, .inr (.inr (.inr (.inr (f))))))]) F (hE.at hfr hS) hfr (mt_X8_next l G (b_3) ((w.2.2.2.2) (a1).toNatClampNeg) (a2) H.size) kv_X9_130 ⟨⟨rfl, rfl⟩, by decide, by decide⟩ rfl hl.1 rfl (Nat.le_of_ble_eq_true rfl) ⟨Nat.le_of_ble_eq_true rfl, Nat.le_of_ble_eq_true rfl⟩ (va_recv hE.1 hI_3 (ci := 4) (q0 := 0) rfl rfl) hI_3 hP hD hS hA [] [0, 1] rfl rfl (by decide) (by decide) (by decide) dc_X9_nextOf_23 ?_
    rintro v9 q_4 H locs rfl hP hD hS ⟨hI_4, hd_4⟩ hz hk9
    have hP : va_P G.1 kcl [(mo, .inr (5, [.int (j_1), .ref cs, .int (w.2.1), .int (w.2.2.1), .int (w.2.2.2.1)])), (cs, .inl (G.2.1 3, 6, .inr (.inr (.inr (.inr (f))))))] H := hP
    have hD : va_D A [(mo, .inr (5, [.int (j_1), .ref cs, .int (w.2.1), .int (w.2.2.1), .int (w.2.2.2.1)])), (cs, .inl (G.2.1 3, 6, .inr (.inr (.inr (.inr (f))))))] := hD
    have hI_3 := hI_3.fr hk9
    refine W.widen (k := 3) (n := 6) (Nat.le_refl _) (Nat.le_refl _) ?_
    refine ky_cVh (As := []) (wr := [(mo, .inr (5, [.int (j_1), .ref cs, .int (w.2.1), .int (w.2.2.1), .int (w.2.2.2.1)])), (cs, .inl (G.2.1 3, 6, .inr (.inr (.inr (.inr (f))))))]) F (hE.at hfr hS) hfr (mt_X8_text l G q_4 (fn_X8_next (a2) ((w.2.2.2.2) (a1).toNatClampNeg)) H.size ) kv_X9_173 ⟨⟨rfl, rfl⟩, Nat.le_of_ble_eq_true rfl, Nat.le_of_ble_eq_true rfl⟩ rfl hl.1 rfl (Nat.le_of_ble_eq_true rfl) ⟨Nat.le_of_ble_eq_true rfl, Nat.le_of_ble_eq_true rfl⟩ (va_recv hE.1 hI_4 (ci := 4) (q0 := 0) rfl rfl) hI_4 hP hD hS hA [] [0, 1] rfl rfl (by decide) (by decide) (by decide) dc_X9_nextOf_26 ?_
    rintro v9 ⟨z_5, y_5, n_5, g_5⟩ H locs ⟨rfl, hn_5, hg_5⟩ hP hD hS - hz hk9
    have hP : va_P G.1 kcl [(mo, .inr (5, [.int (j_1), .ref cs, .int (w.2.1), .int (w.2.2.1), .int (w.2.2.2.1)])), (cs, .inl (G.2.1 3, 6, .inr (.inr (.inr (.inr (f)))))), (z_5, .inr (7, [.ref y_5, .int (0), .int (0), .int (0)])), (y_5, .inl (G.2.1 0, n_5, .inl (g_5)))] H := hP
    have hD : va_D A [(mo, .inr (5, [.int (j_1), .ref cs, .int (w.2.1), .int (w.2.2.1), .int (w.2.2.2.1)])), (cs, .inl (G.2.1 3, 6, .inr (.inr (.inr (.inr (f)))))), (z_5, .inr (7, [.ref y_5, .int (0), .int (0), .int (0)])), (y_5, .inl (G.2.1 0, n_5, .inl (g_5)))] := hD
    refine W.widen (k := 11) (n := 200) (by first | exact Nat.le_refl _ | omega) (by first | exact Nat.le_refl _ | omega) ?_
    have hP9 := hP.sub (ws' := [(mo, .inr (5, [.int (j_1), .ref cs, .int (w.2.1), .int (w.2.2.1), .int (w.2.2.2.1)])), (cs, .inl (G.2.1 3, 6, .inr (.inr (.inr (.inr (f))))))]) [0, 1] rfl
    have hD9 := hD.sub (ws' := [(mo, .inr (5, [.int (j_1), .ref cs, .int (w.2.1), .int (w.2.2.1), .int (w.2.2.2.1)])), (cs, .inl (G.2.1 3, 6, .inr (.inr (.inr (.inr (f))))))]) [0, 1] (by decide) rfl
    refine W.widen (k := 11) (n := 200) (Nat.le_of_ble_eq_true rfl) (Nat.le_of_ble_eq_true rfl) ?_
    exact W.aret (v := .ref z_5) hx hb hr (Or.inl ⟨_, rfl⟩) (Or.inr ⟨_, rfl⟩) (fun t ht hW => ⟨⟨_, j_1, rfl, ⟨_, rfl⟩, by rw [ht]; exact hP9, hD9, by rw [ht]; exact hIT0.ro hAe hS⟩, hS.F ht⟩) hS.2.2 dc_X9_nextOf_29
  · skip
    obtain ⟨k_3, hR_3, hZ_3⟩ := ky_s7 hE
    refine va_ldcS hx hb hown hR_3 dc_X9_nextOf_11 ?_
    refine lv_goto (tgt := 29) hx hb dc_X9_nextOf_13 (by decide) ?_
    have hP9 := hP.sub (ws' := [(mo, .inr (5, [.int (j_1), .ref cs, .int (w.2.1), .int (w.2.2.1), .int (w.2.2.2.1)])), (cs, .inl (G.2.1 3, 6, .inr (.inr (.inr (.inr (f))))))]) [0, 1] rfl
    have hD9 := hD.sub (ws' := [(mo, .inr (5, [.int (j_1), .ref cs, .int (w.2.1), .int (w.2.2.1), .int (w.2.2.2.1)])), (cs, .inl (G.2.1 3, 6, .inr (.inr (.inr (.inr (f))))))]) [0, 1] (by decide) rfl
    refine W.widen (k := 11) (n := 200) (Nat.le_of_ble_eq_true rfl) (Nat.le_of_ble_eq_true rfl) ?_
    exact W.aret (v := .ref k_3) hx hb hr (Or.inl ⟨_, rfl⟩) (Or.inr ⟨_, rfl⟩) (fun t ht hW => ⟨⟨_, j_1, rfl, ⟨_, rfl⟩, by rw [ht]; exact hP9, hD9, by rw [ht]; exact hIT0.ro hAe hS⟩, hS.F ht⟩) hS.2.2 dc_X9_nextOf_29
set_option linter.constructorNameAsVariable false in
set_option maxHeartbeats 4000000 in
set_option maxRecDepth 100000 in
theorem mt_X9_timesOf (l : Launch) (G : ky_G) (mo : Nat) (cs : Nat) (N : Nat → Prop) (w : ky_MV) (f : Nat → Option Nat) (a1 : Int32) (a2 : Int32) (sz : Nat)  : Met l my_X9_timesOf (.code my_X9_timesOf prog_10_method_69_code 3 (Option.some (Jvm.ClassFile.FieldType.object "java/lang/String")) :: ky_B) { frames := 7, cells := 9, slots := 196, locals := 175 } (ky_P G [.ref mo, .int (a1), .int (a2)] (ky_WM G mo cs w f) sz (fun H => ky_IT G mo cs N f w.2.2.2.2 H)) (ky_Q (S := Int32) G (va_A (ky_WM G mo cs w f) sz) (fun v _ => ∃ z : Nat, v = some (.ref z)) (fun u => ky_WM G mo cs (u, w.2) f) (fun _ H => ky_IT G mo cs N f w.2.2.2.2 H)) (9) (196) (va_A (ky_WM G mo cs w f) sz) := by
  refine ky_start (by decide) (Nat.le_of_ble_eq_true rfl) (fun p e s m below meth c F hE A hAe hsz hA hfr hP hD hS hX ls hl => ?_)
  obtain ⟨hx, hb, hml, hown, hr, hlocks, hts⟩ := id F
  have hl : lv_has ls 3 [(0, .ref mo), (1, .int (a1)), (2, .int (a2))] := hl
  have hP : va_P G.1 kcl [(mo, .inr (5, [.int (w.1), .ref cs, .int (w.2.1), .int (w.2.2.1), .int (w.2.2.2.1)])), (cs, .inl (G.2.1 3, 6, .inr (.inr (.inr (.inr (f))))))] s.heap := hP
  have hD : va_D A [(mo, .inr (5, [.int (w.1), .ref cs, .int (w.2.1), .int (w.2.2.1), .int (w.2.2.2.1)])), (cs, .inl (G.2.1 3, 6, .inr (.inr (.inr (.inr (f))))))] := hD
  have hIT0 := hX
  refine lv_aload_n hx hb dc_X9_timesOf_0 rfl (lv_at hl 0 rfl) ?_
  refine lv_iload_n hx hb dc_X9_timesOf_1 rfl (lv_at hl 1 rfl) ?_
  refine ky_cS0 (As := [.int (a1)]) F (mt_X9_isNo l (a1)) ks_X9_51 ⟨⟨rfl, rfl⟩, by decide, by decide⟩ rfl hl.1 rfl (Nat.le_of_ble_eq_true rfl) ⟨Nat.le_of_ble_eq_true rfl, Nat.le_of_ble_eq_true rfl⟩ dc_X9_timesOf_2 ?_
  refine ky_cVh (As := [.int (fn_X9_isNo (a1))]) (wr := []) F (hE.at hfr hS) hfr (mt_X9_startJ l G (mo) (cs) ((w.1, w.2.1, w.2.2.1, w.2.2.2.1)) (f) (fn_X9_isNo (a1)) s.heap.size ) kv_X9_55 ⟨⟨rfl, rfl⟩, by decide, by decide⟩ rfl hl.1 rfl (Nat.le_of_ble_eq_true rfl) ⟨Nat.le_of_ble_eq_true rfl, Nat.le_of_ble_eq_true rfl⟩ (va_recv hE.1 hP (ci := 5) (q0 := 0) rfl rfl) trivial hP hD hS hA [0, 1] [] rfl rfl (by decide) (by decide) (by decide) dc_X9_timesOf_5 ?_
  rintro v9 u9 H locs ⟨rfl, hu9⟩ hP hD hS - hz hk9
  have hu9 := hu9.symm
  subst hu9
  obtain ⟨j_1, hj_1⟩ : ∃ j9, j9 = jst (fn_X9_isNo (a1)) := ⟨_, rfl⟩
  rw [← hj_1] at hP hD ⊢
  try rw [← hj_1] at hw
  have hP : va_P G.1 kcl [(mo, .inr (5, [.int (j_1), .ref cs, .int (w.2.1), .int (w.2.2.1), .int (w.2.2.2.1)])), (cs, .inl (G.2.1 3, 6, .inr (.inr (.inr (.inr (f))))))] H := hP
  have hD : va_D A [(mo, .inr (5, [.int (j_1), .ref cs, .int (w.2.1), .int (w.2.2.1), .int (w.2.2.2.1)])), (cs, .inl (G.2.1 3, 6, .inr (.inr (.inr (.inr (f))))))] := hD
  refine W.widen (k := 0) (n := 0) (Nat.le_refl _) (Nat.le_refl _) ?_
  refine lv_if_eq (tgt := 16) hx hb dc_X9_timesOf_8 (by decide) (fun c_2 => ?_) (fun c_2 => ?_)
  · skip
    refine lv_aload_n hx hb dc_X9_timesOf_16 rfl (lv_at hl 0 rfl) ?_
    refine va_get (D := G.1) (ci := 5) (v := .ref cs) (C := RX9) (T := TX9) (N := 5) hx hb hts ki_X9 hown hE.1 hP 0 rfl rfl 1 (by decide) (hts _ kw_6_20) (fun _ h9 => h9) rfl dc_X9_timesOf_17 ?_
    refine lv_iload_n hx hb dc_X9_timesOf_20 rfl (lv_at hl 1 rfl) ?_
    have hv_3 : vp_in (a1) 6 := (lr_start (hj_1.symm.trans c_2))
    have hIT := hIT0.ro hAe hS
    refine va_aldq hx hb hE.1 hP 1 3 rfl rfl hv_3 dc_X9_timesOf_21 ?_
    obtain ⟨b_3, hb_3, hI_3, ho_3⟩ := hIT.2 _ (ky_i6 hv_3)
    rw [ky_rf hb_3]
    have hX_3 : ky_It G b_3 ((w.2.2.2.2) (a1).toNatClampNeg) s.heap := by obtain ⟨b9, e9, i9, -⟩ := hIT0.2 _ (ky_i6 hv_3); have z9 : b9 = b_3 := Option.some.inj (e9.symm.trans hb_3); exact z9 ▸ i9
    refine lv_iload_n hx hb dc_X9_timesOf_22 rfl (lv_at hl 2 rfl) ?_
    refine lv_i2l (v := (a2).toInt64) hx hb dc_X9_timesOf_23 rfl ?_
    have hI_3 := ky_ro2 hX_3 ho_3 hAe hS
    have hI_3 := ky_ro2 hX_3 ho_3 hAe hS
    have hs_4 := hS.1
    refine ky_cVh (As := [.long ((a2).toInt64)]) (wr := [(mo, .inr (5, [.int (j_1), .ref cs, .int (w.2.1), .int (w.2.2.1), .int (w.2.2.2.1)])), (cs, .inl (G.2.1 3, 6, .inr (.inr (.inr (.inr (f))))))]) F (hE.at hfr hS) hfr (mt_X8_times l G (b_3) ((w.2.2.2.2) (a1).toNatClampNeg) ((a2).toInt64) H.size (ok_X8_times _ _)) kv_X9_140 ⟨⟨rfl, rfl⟩, by decide, by decide⟩ rfl hl.1 rfl (Nat.le_of_ble_eq_true rfl) ⟨Nat.le_of_ble_eq_true rfl, Nat.le_of_ble_eq_true rfl⟩ (va_recv hE.1 hI_3 (ci := 4) (q0 := 0) rfl rfl) hI_3 hP hD hS hA [] [0, 1] rfl rfl (by decide) (by decide) (by decide) dc_X9_timesOf_24 ?_
    rintro v9 q_4 H locs rfl hP hD hS ⟨hI_4, hd_4⟩ hz hk9
    have hP : va_P G.1 kcl [(mo, .inr (5, [.int (j_1), .ref cs, .int (w.2.1), .int (w.2.2.1), .int (w.2.2.2.1)])), (cs, .inl (G.2.1 3, 6, .inr (.inr (.inr (.inr (f))))))] H := hP
    have hD : va_D A [(mo, .inr (5, [.int (j_1), .ref cs, .int (w.2.1), .int (w.2.2.1), .int (w.2.2.2.1)])), (cs, .inl (G.2.1 3, 6, .inr (.inr (.inr (.inr (f))))))] := hD
    have hI_3 := hI_3.fr hk9
    refine W.widen (k := 1) (n := 2) (Nat.le_refl _) (Nat.le_refl _) ?_
    refine ky_cVh (As := []) (wr := [(mo, .inr (5, [.int (j_1), .ref cs, .int (w.2.1), .int (w.2.2.1), .int (w.2.2.2.1)])), (cs, .inl (G.2.1 3, 6, .inr (.inr (.inr (.inr (f))))))]) F (hE.at hfr hS) hfr (mt_X8_text l G q_4 (fn_X8_times ((a2).toInt64) ((w.2.2.2.2) (a1).toNatClampNeg)) H.size ) kv_X9_173 ⟨⟨rfl, rfl⟩, Nat.le_of_ble_eq_true rfl, Nat.le_of_ble_eq_true rfl⟩ rfl hl.1 rfl (Nat.le_of_ble_eq_true rfl) ⟨Nat.le_of_ble_eq_true rfl, Nat.le_of_ble_eq_true rfl⟩ (va_recv hE.1 hI_4 (ci := 4) (q0 := 0) rfl rfl) hI_4 hP hD hS hA [] [0, 1] rfl rfl (by decide) (by decide) (by decide) dc_X9_timesOf_27 ?_
    rintro v9 ⟨z_5, y_5, n_5, g_5⟩ H locs ⟨rfl, hn_5, hg_5⟩ hP hD hS - hz hk9
    have hP : va_P G.1 kcl [(mo, .inr (5, [.int (j_1), .ref cs, .int (w.2.1), .int (w.2.2.1), .int (w.2.2.2.1)])), (cs, .inl (G.2.1 3, 6, .inr (.inr (.inr (.inr (f)))))), (z_5, .inr (7, [.ref y_5, .int (0), .int (0), .int (0)])), (y_5, .inl (G.2.1 0, n_5, .inl (g_5)))] H := hP
    have hD : va_D A [(mo, .inr (5, [.int (j_1), .ref cs, .int (w.2.1), .int (w.2.2.1), .int (w.2.2.2.1)])), (cs, .inl (G.2.1 3, 6, .inr (.inr (.inr (.inr (f)))))), (z_5, .inr (7, [.ref y_5, .int (0), .int (0), .int (0)])), (y_5, .inl (G.2.1 0, n_5, .inl (g_5)))] := hD
    refine W.widen (k := 9) (n := 196) (by first | exact Nat.le_refl _ | omega) (by first | exact Nat.le_refl _ | omega) ?_
    have hP9 := hP.sub (ws' := [(mo, .inr (5, [.int (j_1), .ref cs, .int (w.2.1), .int (w.2.2.1), .int (w.2.2.2.1)])), (cs, .inl (G.2.1 3, 6, .inr (.inr (.inr (.inr (f))))))]) [0, 1] rfl
    have hD9 := hD.sub (ws' := [(mo, .inr (5, [.int (j_1), .ref cs, .int (w.2.1), .int (w.2.2.1), .int (w.2.2.2.1)])), (cs, .inl (G.2.1 3, 6, .inr (.inr (.inr (.inr (f))))))]) [0, 1] (by decide) rfl
    refine W.widen (k := 9) (n := 196) (Nat.le_of_ble_eq_true rfl) (Nat.le_of_ble_eq_true rfl) ?_
    exact W.aret (v := .ref z_5) hx hb hr (Or.inl ⟨_, rfl⟩) (Or.inr ⟨_, rfl⟩) (fun t ht hW => ⟨⟨_, j_1, rfl, ⟨_, rfl⟩, by rw [ht]; exact hP9, hD9, by rw [ht]; exact hIT0.ro hAe hS⟩, hS.F ht⟩) hS.2.2 dc_X9_timesOf_30
  · skip
    obtain ⟨k_3, hR_3, hZ_3⟩ := ky_s7 hE
    refine va_ldcS hx hb hown hR_3 dc_X9_timesOf_11 ?_
    refine lv_goto (tgt := 30) hx hb dc_X9_timesOf_13 (by decide) ?_
    have hP9 := hP.sub (ws' := [(mo, .inr (5, [.int (j_1), .ref cs, .int (w.2.1), .int (w.2.2.1), .int (w.2.2.2.1)])), (cs, .inl (G.2.1 3, 6, .inr (.inr (.inr (.inr (f))))))]) [0, 1] rfl
    have hD9 := hD.sub (ws' := [(mo, .inr (5, [.int (j_1), .ref cs, .int (w.2.1), .int (w.2.2.1), .int (w.2.2.2.1)])), (cs, .inl (G.2.1 3, 6, .inr (.inr (.inr (.inr (f))))))]) [0, 1] (by decide) rfl
    refine W.widen (k := 9) (n := 196) (Nat.le_of_ble_eq_true rfl) (Nat.le_of_ble_eq_true rfl) ?_
    exact W.aret (v := .ref k_3) hx hb hr (Or.inl ⟨_, rfl⟩) (Or.inr ⟨_, rfl⟩) (fun t ht hW => ⟨⟨_, j_1, rfl, ⟨_, rfl⟩, by rw [ht]; exact hP9, hD9, by rw [ht]; exact hIT0.ro hAe hS⟩, hS.F ht⟩) hS.2.2 dc_X9_timesOf_30
set_option linter.constructorNameAsVariable false in
set_option maxHeartbeats 4000000 in
set_option maxRecDepth 100000 in
theorem ml_X9_end_L19 {p : Program} {l : Launch} {e : Env} {s : State} {m : MethodId} {args : Array Value} {below : List Frame} {meth : Method} {c : Code} {G : ky_G} {A : Nat → Prop} {mo : Nat} {cs : Nat} {N : Nat → Prop} {w : ky_MV} {f : Nat → Option Nat} {a1 : Int32} (F : ky_F p s m meth c my_X9_end.cls prog_10_method_71_code 7 (Option.some (Jvm.ClassFile.FieldType.object "java/lang/String")) args) (hE : ky_E G s) (hA : ∀ q, s.heap.size ≤ q → A q) (hfr : ∀ q, A q → ky_fr G q) (hAe : A = va_A (ky_WM G mo cs w f) s.heap.size) (hIT0 : ky_IT G mo cs N f w.2.2.2.2 s.heap)  : ∀ (n9 : Nat) (k9 : Nat) (b9 : Nat) (v9 : Int32 × Int64) (h9 : k9 ≤ 6) (hn9 : 6 - k9 < n9) (hX9 : ky_It G b9 v9 s.heap) (ho9 : ky_ok mo cs N b9) (H : Heap) (locs : List Loc), va_P G.1 kcl [(mo, .inr (5, [.int (w.1), .ref cs, .int (w.2.1), .int (w.2.2.1), .int (w.2.2.2.1)])), (cs, .inl (G.2.1 3, 6, .inr (.inr (.inr (.inr (f))))))] H → va_D A [(mo, .inr (5, [.int (w.1), .ref cs, .int (w.2.1), .int (w.2.2.1), .int (w.2.2.2.1)])), (cs, .inl (G.2.1 3, 6, .inr (.inr (.inr (.inr (f))))))] → va_S A s.heap H locs →  ∀ ls : Array Slot, lv_has ls 7 [(0, .ref mo), (1, .int (a1)), (2, .ref b9), (3, .ref cs), (4, .int ((6 : Int32))), (5, .int (nI (k9)))] → W p l e { frames := 7, cells := 8, slots := 194, locals := 175 } s m args below meth c H locs (0) (0) (MQ below (ky_Q (S := Nat × Nat × Nat × (Nat → Int32)) G A (fun v u => v = some (.ref u.1) ∧ u.2.2.1 ≤ 34 ∧ ky_fit u.2.2.2) (fun u => ky_WM G mo cs w f ++ ky_WZ G u) (fun _ H => ky_IT G mo cs N f w.2.2.2.2 H)) args s (8) (194) A) (F0 m 19 ls []) := by
  obtain ⟨hx, hb, hml, hown, hr, hlocks, hts⟩ := id F
  intro n9
  induction n9 with
  | zero => intro k9 b9 v9 h9 hn9 hX9 ho9; exact False.elim (by omega)
  | succ n9 ih =>
      intro k9 b9 v9 h9 hn9 hX9 ho9 H locs hP hD hS  ls hl
      refine lv_iload hx hb dc_X9_end_19 (lv_at hl 5 rfl) ?_
      refine lv_iload hx hb dc_X9_end_21 (lv_at hl 4 rfl) ?_
      refine lv_icmp_ge (tgt := 67) hx hb dc_X9_end_23 (by decide) (fun c_0 => ?_) (fun c_0 => ?_)
      · skip
        refine lv_aload_n hx hb dc_X9_end_67 rfl (lv_at hl 2 rfl) ?_
        have hI9 := ky_ro2 hX9 ho9 hAe hS
        refine ky_cVh (As := []) (wr := [(mo, .inr (5, [.int (w.1), .ref cs, .int (w.2.1), .int (w.2.2.1), .int (w.2.2.2.1)])), (cs, .inl (G.2.1 3, 6, .inr (.inr (.inr (.inr (f))))))]) F (hE.at hfr hS) hfr (mt_X8_text l G b9 v9 H.size ) kv_X9_173 ⟨⟨rfl, rfl⟩, Nat.le_of_ble_eq_true rfl, Nat.le_of_ble_eq_true rfl⟩ rfl hl.1 rfl (Nat.le_of_ble_eq_true rfl) ⟨Nat.le_of_ble_eq_true rfl, Nat.le_of_ble_eq_true rfl⟩ (va_recv hE.1 hI9 (ci := 4) (q0 := 0) rfl rfl) hI9 hP hD hS hA [] [0, 1] rfl rfl (by decide) (by decide) (by decide) dc_X9_end_68 ?_
        rintro v9 ⟨z_1, y_1, n_1, g_1⟩ H locs ⟨rfl, hn_1, hg_1⟩ hP hD hS - hz hk9
        have hP : va_P G.1 kcl [(mo, .inr (5, [.int (w.1), .ref cs, .int (w.2.1), .int (w.2.2.1), .int (w.2.2.2.1)])), (cs, .inl (G.2.1 3, 6, .inr (.inr (.inr (.inr (f)))))), (z_1, .inr (7, [.ref y_1, .int (0), .int (0), .int (0)])), (y_1, .inl (G.2.1 0, n_1, .inl (g_1)))] H := hP
        have hD : va_D A [(mo, .inr (5, [.int (w.1), .ref cs, .int (w.2.1), .int (w.2.2.1), .int (w.2.2.2.1)])), (cs, .inl (G.2.1 3, 6, .inr (.inr (.inr (.inr (f)))))), (z_1, .inr (7, [.ref y_1, .int (0), .int (0), .int (0)])), (y_1, .inl (G.2.1 0, n_1, .inl (g_1)))] := hD
        refine W.widen (k := 8) (n := 194) (by first | exact Nat.le_refl _ | omega) (by first | exact Nat.le_refl _ | omega) ?_
        have hP9 := hP.sub (ws' := [(mo, .inr (5, [.int (w.1), .ref cs, .int (w.2.1), .int (w.2.2.1), .int (w.2.2.2.1)])), (cs, .inl (G.2.1 3, 6, .inr (.inr (.inr (.inr (f)))))), (z_1, .inr (7, [.ref y_1, .int (0), .int (0), .int (0)])), (y_1, .inl (G.2.1 0, n_1, .inl (g_1)))]) [0, 1, 2, 3] rfl
        have hD9 := hD.sub (ws' := [(mo, .inr (5, [.int (w.1), .ref cs, .int (w.2.1), .int (w.2.2.1), .int (w.2.2.2.1)])), (cs, .inl (G.2.1 3, 6, .inr (.inr (.inr (.inr (f)))))), (z_1, .inr (7, [.ref y_1, .int (0), .int (0), .int (0)])), (y_1, .inl (G.2.1 0, n_1, .inl (g_1)))]) [0, 1, 2, 3] (by decide) rfl
        refine W.widen (k := 8) (n := 194) (Nat.le_of_ble_eq_true rfl) (Nat.le_of_ble_eq_true rfl) ?_
        exact W.aret (v := .ref z_1) hx hb hr (Or.inl ⟨_, rfl⟩) (Or.inr ⟨_, rfl⟩) (fun t ht hW => ⟨⟨_, (z_1, y_1, n_1, g_1), rfl, ⟨rfl, hn_1, hg_1⟩, by rw [ht]; exact hP9, hD9, by rw [ht]; exact hIT0.ro hAe hS⟩, hS.F ht⟩) hS.2.2 dc_X9_end_71
      · skip
        have h9k9 : ¬ 6 ≤ k9 := fun z => c_0 ((nI_leI (a := 6) (b := k9) (by omega) (by omega)).mpr z)
        refine lv_aload_n hx hb dc_X9_end_26 rfl (lv_at hl 3 rfl) ?_
        refine lv_iload hx hb dc_X9_end_27 (lv_at hl 5 rfl) ?_
        have hv_1 : vp_in (nI (k9)) 6 := (vp_in_nI (by omega) (by omega))
        have hIT := hIT0.ro hAe hS
        refine va_aldq hx hb hE.1 hP 1 3 rfl rfl hv_1 dc_X9_end_29 ?_
        obtain ⟨b_1, hb_1, hI_1, ho_1⟩ := hIT.2 _ (ky_i6 hv_1)
        rw [ky_rf hb_1]
        have hX_1 : ky_It G b_1 ((w.2.2.2.2) (nI (k9)).toNatClampNeg) s.heap := by obtain ⟨b9, e9, i9, -⟩ := hIT0.2 _ (ky_i6 hv_1); have z9 : b9 = b_1 := Option.some.inj (e9.symm.trans hb_1); exact z9 ▸ i9
        refine lv_astore (lv' := [(6, .ref b_1), (0, .ref mo), (1, .int (a1)), (2, .ref b9), (3, .ref cs), (4, .int ((6 : Int32))), (5, .int (nI (k9)))]) hx hb dc_X9_end_30 hl (by decide) rfl (fun ls hl => ?_)
        refine lv_aload hx hb dc_X9_end_32 (lv_at hl 0 rfl) ?_
        have hI_1 := ky_ro2 hX_1 ho_1 hAe hS
        refine ky_cV1 (As := []) F (hE.at hfr hS) (mt_X8_place l G (b_1) (((w.2.2.2.2) (nI (k9)).toNatClampNeg)) ) kv_X9_147 ⟨⟨rfl, rfl⟩, by decide, by decide⟩ rfl hl.1 rfl (Nat.le_of_ble_eq_true rfl) ⟨Nat.le_of_ble_eq_true rfl, Nat.le_of_ble_eq_true rfl⟩ (va_recv hE.1 hI_1 (ci := 4) (q0 := 0) rfl rfl) hI_1 dc_X9_end_34 ?_
        refine lv_aload_n hx hb dc_X9_end_37 rfl (lv_at hl 3 rfl) ?_
        have hI9 := ky_ro2 hX9 ho9 hAe hS
        refine ky_cV1 (As := []) F (hE.at hfr hS) (mt_X8_place l G (b9) (v9) ) kv_X9_147 ⟨⟨rfl, rfl⟩, by decide, by decide⟩ rfl hl.1 rfl (Nat.le_of_ble_eq_true rfl) ⟨Nat.le_of_ble_eq_true rfl, Nat.le_of_ble_eq_true rfl⟩ (va_recv hE.1 hI9 (ci := 4) (q0 := 0) rfl rfl) hI9 dc_X9_end_38 ?_
        refine W.lcmp hx hb dc_X9_end_41 ?_
        refine lv_if_le (tgt := 49) hx hb dc_X9_end_42 (by decide) (fun c_2 => ?_) (fun c_2 => ?_)
        · skip
          refine lv_iconst (v := 0) hx hb dc_X9_end_49 (by decide) ?_
          refine lv_iload_n hx hb dc_X9_end_50 rfl (lv_at hl 2 rfl) ?_
          refine lv_icmp_ne (tgt := 59) hx hb dc_X9_end_51 (by decide) (fun c_3 => ?_) (fun c_3 => ?_)
          · skip
            refine lv_aload_n hx hb dc_X9_end_59 rfl (lv_at hl 3 rfl) ?_
            refine lv_astore_n (lv' := [(2, .ref b9), (6, .ref b_1), (0, .ref mo), (1, .int (a1)), (3, .ref cs), (4, .int ((6 : Int32))), (5, .int (nI (k9)))]) hx hb dc_X9_end_60 rfl hl (by decide) rfl (fun ls hl => ?_)
            refine lv_iinc (v := nI (k9 + 1)) (lv' := [(5, .int (nI (k9 + 1))), (2, .ref b9), (6, .ref b_1), (0, .ref mo), (1, .int (a1)), (3, .ref cs), (4, .int ((6 : Int32)))]) hx hb dc_X9_end_61 hl (k := 6) rfl (nI_1 _) (by decide) rfl (fun ls hl => ?_)
            refine lv_goto (tgt := 19) hx hb dc_X9_end_64 (by decide) ?_
            refine W.widen (k := 0) (n := 0) (by first | exact Nat.le_refl _ | omega | exact Nat.zero_le _) (by first | exact Nat.le_refl _ | omega | exact Nat.zero_le _) ?_
            exact ih (k9 + 1) b9 v9 (by omega) (by omega) hX9 ho9 _ _ (hP.sub (ws' := [(mo, .inr (5, [.int (w.1), .ref cs, .int (w.2.1), .int (w.2.2.1), .int (w.2.2.2.1)])), (cs, .inl (G.2.1 3, 6, .inr (.inr (.inr (.inr (f))))))]) [0, 1] rfl) (hD.sub (ws' := [(mo, .inr (5, [.int (w.1), .ref cs, .int (w.2.1), .int (w.2.2.1), .int (w.2.2.2.1)])), (cs, .inl (G.2.1 3, 6, .inr (.inr (.inr (.inr (f))))))]) [0, 1] (by decide) rfl) hS  _ (lv_sub hl [3, 4, 1, 5, 6, 0] rfl)
          · skip
            refine lv_aload hx hb dc_X9_end_54 (lv_at hl 0 rfl) ?_
            refine lv_goto (tgt := 60) hx hb dc_X9_end_56 (by decide) ?_
            refine lv_astore_n (lv' := [(2, .ref b_1), (6, .ref b_1), (0, .ref mo), (1, .int (a1)), (3, .ref cs), (4, .int ((6 : Int32))), (5, .int (nI (k9)))]) hx hb dc_X9_end_60 rfl hl (by decide) rfl (fun ls hl => ?_)
            refine lv_iinc (v := nI (k9 + 1)) (lv' := [(5, .int (nI (k9 + 1))), (2, .ref b_1), (6, .ref b_1), (0, .ref mo), (1, .int (a1)), (3, .ref cs), (4, .int ((6 : Int32)))]) hx hb dc_X9_end_61 hl (k := 6) rfl (nI_1 _) (by decide) rfl (fun ls hl => ?_)
            refine lv_goto (tgt := 19) hx hb dc_X9_end_64 (by decide) ?_
            refine W.widen (k := 0) (n := 0) (by first | exact Nat.le_refl _ | omega | exact Nat.zero_le _) (by first | exact Nat.le_refl _ | omega | exact Nat.zero_le _) ?_
            exact ih (k9 + 1) b_1 ((w.2.2.2.2) (nI (k9)).toNatClampNeg) (by omega) (by omega) hX_1 ho_1 _ _ (hP.sub (ws' := [(mo, .inr (5, [.int (w.1), .ref cs, .int (w.2.1), .int (w.2.2.1), .int (w.2.2.2.1)])), (cs, .inl (G.2.1 3, 6, .inr (.inr (.inr (.inr (f))))))]) [0, 1] rfl) (hD.sub (ws' := [(mo, .inr (5, [.int (w.1), .ref cs, .int (w.2.1), .int (w.2.2.1), .int (w.2.2.2.1)])), (cs, .inl (G.2.1 3, 6, .inr (.inr (.inr (.inr (f))))))]) [0, 1] (by decide) rfl) hS  _ (lv_sub hl [3, 4, 1, 5, 6, 0] rfl)
        · skip
          refine lv_iconst (v := 1) hx hb dc_X9_end_45 (by decide) ?_
          refine lv_goto (tgt := 50) hx hb dc_X9_end_46 (by decide) ?_
          refine lv_iload_n hx hb dc_X9_end_50 rfl (lv_at hl 2 rfl) ?_
          refine lv_icmp_ne (tgt := 59) hx hb dc_X9_end_51 (by decide) (fun c_3 => ?_) (fun c_3 => ?_)
          · skip
            refine lv_aload_n hx hb dc_X9_end_59 rfl (lv_at hl 3 rfl) ?_
            refine lv_astore_n (lv' := [(2, .ref b9), (6, .ref b_1), (0, .ref mo), (1, .int (a1)), (3, .ref cs), (4, .int ((6 : Int32))), (5, .int (nI (k9)))]) hx hb dc_X9_end_60 rfl hl (by decide) rfl (fun ls hl => ?_)
            refine lv_iinc (v := nI (k9 + 1)) (lv' := [(5, .int (nI (k9 + 1))), (2, .ref b9), (6, .ref b_1), (0, .ref mo), (1, .int (a1)), (3, .ref cs), (4, .int ((6 : Int32)))]) hx hb dc_X9_end_61 hl (k := 6) rfl (nI_1 _) (by decide) rfl (fun ls hl => ?_)
            refine lv_goto (tgt := 19) hx hb dc_X9_end_64 (by decide) ?_
            refine W.widen (k := 0) (n := 0) (by first | exact Nat.le_refl _ | omega | exact Nat.zero_le _) (by first | exact Nat.le_refl _ | omega | exact Nat.zero_le _) ?_
            exact ih (k9 + 1) b9 v9 (by omega) (by omega) hX9 ho9 _ _ (hP.sub (ws' := [(mo, .inr (5, [.int (w.1), .ref cs, .int (w.2.1), .int (w.2.2.1), .int (w.2.2.2.1)])), (cs, .inl (G.2.1 3, 6, .inr (.inr (.inr (.inr (f))))))]) [0, 1] rfl) (hD.sub (ws' := [(mo, .inr (5, [.int (w.1), .ref cs, .int (w.2.1), .int (w.2.2.1), .int (w.2.2.2.1)])), (cs, .inl (G.2.1 3, 6, .inr (.inr (.inr (.inr (f))))))]) [0, 1] (by decide) rfl) hS  _ (lv_sub hl [3, 4, 1, 5, 6, 0] rfl)
          · skip
            refine lv_aload hx hb dc_X9_end_54 (lv_at hl 0 rfl) ?_
            refine lv_goto (tgt := 60) hx hb dc_X9_end_56 (by decide) ?_
            refine lv_astore_n (lv' := [(2, .ref b_1), (6, .ref b_1), (0, .ref mo), (1, .int (a1)), (3, .ref cs), (4, .int ((6 : Int32))), (5, .int (nI (k9)))]) hx hb dc_X9_end_60 rfl hl (by decide) rfl (fun ls hl => ?_)
            refine lv_iinc (v := nI (k9 + 1)) (lv' := [(5, .int (nI (k9 + 1))), (2, .ref b_1), (6, .ref b_1), (0, .ref mo), (1, .int (a1)), (3, .ref cs), (4, .int ((6 : Int32)))]) hx hb dc_X9_end_61 hl (k := 6) rfl (nI_1 _) (by decide) rfl (fun ls hl => ?_)
            refine lv_goto (tgt := 19) hx hb dc_X9_end_64 (by decide) ?_
            refine W.widen (k := 0) (n := 0) (by first | exact Nat.le_refl _ | omega | exact Nat.zero_le _) (by first | exact Nat.le_refl _ | omega | exact Nat.zero_le _) ?_
            exact ih (k9 + 1) b_1 ((w.2.2.2.2) (nI (k9)).toNatClampNeg) (by omega) (by omega) hX_1 ho_1 _ _ (hP.sub (ws' := [(mo, .inr (5, [.int (w.1), .ref cs, .int (w.2.1), .int (w.2.2.1), .int (w.2.2.2.1)])), (cs, .inl (G.2.1 3, 6, .inr (.inr (.inr (.inr (f))))))]) [0, 1] rfl) (hD.sub (ws' := [(mo, .inr (5, [.int (w.1), .ref cs, .int (w.2.1), .int (w.2.2.1), .int (w.2.2.2.1)])), (cs, .inl (G.2.1 3, 6, .inr (.inr (.inr (.inr (f))))))]) [0, 1] (by decide) rfl) hS  _ (lv_sub hl [3, 4, 1, 5, 6, 0] rfl)
set_option linter.constructorNameAsVariable false in
set_option maxHeartbeats 4000000 in
set_option maxRecDepth 100000 in
theorem mt_X9_end (l : Launch) (G : ky_G) (mo : Nat) (cs : Nat) (N : Nat → Prop) (w : ky_MV) (f : Nat → Option Nat) (a1 : Int32) (sz : Nat)  : Met l my_X9_end (.code my_X9_end prog_10_method_71_code 7 (Option.some (Jvm.ClassFile.FieldType.object "java/lang/String")) :: ky_B) { frames := 7, cells := 8, slots := 194, locals := 175 } (ky_P G [.ref mo, .int (a1)] (ky_WM G mo cs w f) sz (fun H => ky_IT G mo cs N f w.2.2.2.2 H)) (ky_Q (S := Nat × Nat × Nat × (Nat → Int32)) G (va_A (ky_WM G mo cs w f) sz) (fun v u => v = some (.ref u.1) ∧ u.2.2.1 ≤ 34 ∧ ky_fit u.2.2.2) (fun u => ky_WM G mo cs w f ++ ky_WZ G u) (fun _ H => ky_IT G mo cs N f w.2.2.2.2 H)) (8) (194) (va_A (ky_WM G mo cs w f) sz) := by
  refine ky_start (by decide) (Nat.le_of_ble_eq_true rfl) (fun p e s m below meth c F hE A hAe hsz hA hfr hP hD hS hX ls hl => ?_)
  obtain ⟨hx, hb, hml, hown, hr, hlocks, hts⟩ := id F
  have hl : lv_has ls 7 [(0, .ref mo), (1, .int (a1))] := hl
  have hP : va_P G.1 kcl [(mo, .inr (5, [.int (w.1), .ref cs, .int (w.2.1), .int (w.2.2.1), .int (w.2.2.2.1)])), (cs, .inl (G.2.1 3, 6, .inr (.inr (.inr (.inr (f))))))] s.heap := hP
  have hD : va_D A [(mo, .inr (5, [.int (w.1), .ref cs, .int (w.2.1), .int (w.2.2.1), .int (w.2.2.2.1)])), (cs, .inl (G.2.1 3, 6, .inr (.inr (.inr (.inr (f))))))] := hD
  have hIT0 := hX
  refine lv_aload_n hx hb dc_X9_end_0 rfl (lv_at hl 0 rfl) ?_
  refine va_get (D := G.1) (ci := 5) (v := .ref cs) (C := RX9) (T := TX9) (N := 5) hx hb hts ki_X9 hown hE.1 hP 0 rfl rfl 1 (by decide) (hts _ kw_6_20) (fun _ h9 => h9) rfl dc_X9_end_1 ?_
  refine lv_iconst (v := 0) hx hb dc_X9_end_4 (by decide) ?_
  have hv_0 : vp_in ((0 : Int32)) 6 := (vp_in_iff.mpr (by decide))
  have hIT := hIT0.ro hAe hS
  refine va_aldq hx hb hE.1 hP 1 3 rfl rfl hv_0 dc_X9_end_5 ?_
  obtain ⟨b_0, hb_0, hI_0, ho_0⟩ := hIT.2 _ (ky_i6 hv_0)
  rw [ky_rf hb_0]
  have hX_0 : ky_It G b_0 ((w.2.2.2.2) ((0 : Int32)).toNatClampNeg) s.heap := by obtain ⟨b9, e9, i9, -⟩ := hIT0.2 _ (ky_i6 hv_0); have z9 : b9 = b_0 := Option.some.inj (e9.symm.trans hb_0); exact z9 ▸ i9
  refine lv_astore_n (lv' := [(2, .ref b_0), (0, .ref mo), (1, .int (a1))]) hx hb dc_X9_end_6 rfl hl (by decide) rfl (fun ls hl => ?_)
  refine lv_aload_n hx hb dc_X9_end_7 rfl (lv_at hl 1 rfl) ?_
  refine va_get (D := G.1) (ci := 5) (v := .ref cs) (C := RX9) (T := TX9) (N := 5) hx hb hts ki_X9 hown hE.1 hP 0 rfl rfl 1 (by decide) (hts _ kw_6_20) (fun _ h9 => h9) rfl dc_X9_end_8 ?_
  refine lv_astore_n (lv' := [(3, .ref cs), (2, .ref b_0), (0, .ref mo), (1, .int (a1))]) hx hb dc_X9_end_11 rfl hl (by decide) rfl (fun ls hl => ?_)
  refine lv_aload_n hx hb dc_X9_end_12 rfl (lv_at hl 0 rfl) ?_
  refine va_alen hx hb hE.1 hP 1 3 rfl rfl (v := (6 : Int32)) rfl dc_X9_end_13 ?_
  refine lv_istore (lv' := [(4, .int ((6 : Int32))), (3, .ref cs), (2, .ref b_0), (0, .ref mo), (1, .int (a1))]) hx hb dc_X9_end_14 hl (by decide) rfl (fun ls hl => ?_)
  refine lv_iconst (v := 0) hx hb dc_X9_end_16 (by decide) ?_
  refine lv_istore (lv' := [(5, .int ((0 : Int32))), (4, .int ((6 : Int32))), (3, .ref cs), (2, .ref b_0), (0, .ref mo), (1, .int (a1))]) hx hb dc_X9_end_17 hl (by decide) rfl (fun ls hl => ?_)
  refine W.widen (k := 0) (n := 0) (by first | exact Nat.le_refl _ | omega | exact Nat.zero_le _) (by first | exact Nat.le_refl _ | omega | exact Nat.zero_le _) ?_
  exact ml_X9_end_L19 (mo := mo) (cs := cs) (N := N) (w := w) (f := f) (a1 := a1) F hE hA hfr hAe hIT0  (7) 0 b_0 ((w.2.2.2.2) ((0 : Int32)).toNatClampNeg) (by omega) (by omega) hX_0 ho_0 _ _ (hP.sub (ws' := [(mo, .inr (5, [.int (w.1), .ref cs, .int (w.2.1), .int (w.2.2.1), .int (w.2.2.2.1)])), (cs, .inl (G.2.1 3, 6, .inr (.inr (.inr (.inr (f))))))]) [0, 1] rfl) (hD.sub (ws' := [(mo, .inr (5, [.int (w.1), .ref cs, .int (w.2.1), .int (w.2.2.1), .int (w.2.2.2.1)])), (cs, .inl (G.2.1 3, 6, .inr (.inr (.inr (.inr (f))))))]) [0, 1] (by decide) rfl) hS  _ (lv_sub hl [4, 5, 3, 2, 1, 0] rfl)
set_option linter.constructorNameAsVariable false in
set_option maxHeartbeats 4000000 in
set_option maxRecDepth 100000 in
theorem mt_X9_greatest (l : Launch) (G : ky_G) (mo : Nat) (cs : Nat) (N : Nat → Prop) (w : ky_MV) (f : Nat → Option Nat) (sz : Nat)  : Met l my_X9_greatest (.code my_X9_greatest prog_10_method_72_code 1 (Option.some (Jvm.ClassFile.FieldType.object "java/lang/String")) :: ky_B) { frames := 8, cells := 8, slots := 194, locals := 201 } (ky_P G [.ref mo] (ky_WM G mo cs w f) sz (fun H => ky_IT G mo cs N f w.2.2.2.2 H)) (ky_Q (S := Int32) G (va_A (ky_WM G mo cs w f) sz) (fun v _ => ∃ z : Nat, v = some (.ref z)) (fun u => ky_WM G mo cs (u, w.2) f) (fun _ H => ky_IT G mo cs N f w.2.2.2.2 H)) (8) (194) (va_A (ky_WM G mo cs w f) sz) := by
  refine ky_start (by decide) (Nat.le_of_ble_eq_true rfl) (fun p e s m below meth c F hE A hAe hsz hA hfr hP hD hS hX ls hl => ?_)
  obtain ⟨hx, hb, hml, hown, hr, hlocks, hts⟩ := id F
  have hl : lv_has ls 1 [(0, .ref mo)] := hl
  have hP : va_P G.1 kcl [(mo, .inr (5, [.int (w.1), .ref cs, .int (w.2.1), .int (w.2.2.1), .int (w.2.2.2.1)])), (cs, .inl (G.2.1 3, 6, .inr (.inr (.inr (.inr (f))))))] s.heap := hP
  have hD : va_D A [(mo, .inr (5, [.int (w.1), .ref cs, .int (w.2.1), .int (w.2.2.1), .int (w.2.2.2.1)])), (cs, .inl (G.2.1 3, 6, .inr (.inr (.inr (.inr (f))))))] := hD
  have hIT0 := hX
  refine lv_aload_n hx hb dc_X9_greatest_0 rfl (lv_at hl 0 rfl) ?_
  refine lv_iconst (v := 0) hx hb dc_X9_greatest_1 (by decide) ?_
  refine va_put (D := G.1) (ci := 5) (v := .int ((0 : Int32))) (ty := .int) (C := RX9) (T := TX9) (N := 5) hx hb hts ki_X9 tyX9 tyX9_ok nmX9 hown hE.1 hP hD hS 0 rfl rfl 0 (by decide) (hts _ kw_6_19) (fun _ h9 => h9) rfl (by decide +kernel) rfl rfl (Nat.le_of_ble_eq_true rfl) dc_X9_greatest_2 (fun H locs hP hD hS => ?_)
  have hP : va_P G.1 kcl [(mo, .inr (5, [.int ((0 : Int32)), .ref cs, .int (w.2.1), .int (w.2.2.1), .int (w.2.2.2.1)])), (cs, .inl (G.2.1 3, 6, .inr (.inr (.inr (.inr (f))))))] H := hP
  have hD : va_D A [(mo, .inr (5, [.int ((0 : Int32)), .ref cs, .int (w.2.1), .int (w.2.2.1), .int (w.2.2.2.1)])), (cs, .inl (G.2.1 3, 6, .inr (.inr (.inr (.inr (f))))))] := hD
  refine lv_aload_n hx hb dc_X9_greatest_5 rfl (lv_at hl 0 rfl) ?_
  refine lv_iconst (v := 1) hx hb dc_X9_greatest_6 (by decide) ?_
  have hIT := hIT0.ro hAe hS
  refine ky_cVh (As := [.int ((1 : Int32))]) (wr := []) F (hE.at hfr hS) hfr (mt_X9_end l G mo cs N ((0 : Int32), w.2.1, w.2.2.1, w.2.2.2.1, w.2.2.2.2) f (1 : Int32) H.size ) kv_X9_251 ⟨⟨rfl, rfl⟩, Nat.le_of_ble_eq_true rfl, Nat.le_of_ble_eq_true rfl⟩ rfl hl.1 rfl (Nat.le_of_ble_eq_true rfl) ⟨Nat.le_of_ble_eq_true rfl, Nat.le_of_ble_eq_true rfl⟩ (va_recv hE.1 hP (ci := 5) (q0 := 0) rfl rfl) hIT hP hD hS hA [0, 1] [] rfl rfl (by decide) (by decide) (by decide) dc_X9_greatest_7 ?_
  rintro v9 ⟨z_0, y_0, n_0, g_0⟩ H locs ⟨rfl, hn_0, hg_0⟩ hP hD hS - hz hk9
  have hP : va_P G.1 kcl [(mo, .inr (5, [.int ((0 : Int32)), .ref cs, .int (w.2.1), .int (w.2.2.1), .int (w.2.2.2.1)])), (cs, .inl (G.2.1 3, 6, .inr (.inr (.inr (.inr (f)))))), (z_0, .inr (7, [.ref y_0, .int (0), .int (0), .int (0)])), (y_0, .inl (G.2.1 0, n_0, .inl (g_0)))] H := hP
  have hD : va_D A [(mo, .inr (5, [.int ((0 : Int32)), .ref cs, .int (w.2.1), .int (w.2.2.1), .int (w.2.2.2.1)])), (cs, .inl (G.2.1 3, 6, .inr (.inr (.inr (.inr (f)))))), (z_0, .inr (7, [.ref y_0, .int (0), .int (0), .int (0)])), (y_0, .inl (G.2.1 0, n_0, .inl (g_0)))] := hD
  refine W.widen (k := 8) (n := 194) (by first | exact Nat.le_refl _ | omega) (by first | exact Nat.le_refl _ | omega) ?_
  have hP9 := hP.sub (ws' := [(mo, .inr (5, [.int ((0 : Int32)), .ref cs, .int (w.2.1), .int (w.2.2.1), .int (w.2.2.2.1)])), (cs, .inl (G.2.1 3, 6, .inr (.inr (.inr (.inr (f))))))]) [0, 1] rfl
  have hD9 := hD.sub (ws' := [(mo, .inr (5, [.int ((0 : Int32)), .ref cs, .int (w.2.1), .int (w.2.2.1), .int (w.2.2.2.1)])), (cs, .inl (G.2.1 3, 6, .inr (.inr (.inr (.inr (f))))))]) [0, 1] (by decide) rfl
  refine W.widen (k := 8) (n := 194) (Nat.le_of_ble_eq_true rfl) (Nat.le_of_ble_eq_true rfl) ?_
  exact W.aret (v := .ref z_0) hx hb hr (Or.inl ⟨_, rfl⟩) (Or.inr ⟨_, rfl⟩) (fun t ht hW => ⟨⟨_, (0 : Int32), rfl, ⟨_, rfl⟩, by rw [ht]; exact hP9, hD9, by rw [ht]; exact hIT0.ro hAe hS⟩, hS.F ht⟩) hS.2.2 dc_X9_greatest_10
set_option linter.constructorNameAsVariable false in
set_option maxHeartbeats 4000000 in
set_option maxRecDepth 100000 in
theorem mt_X9_least (l : Launch) (G : ky_G) (mo : Nat) (cs : Nat) (N : Nat → Prop) (w : ky_MV) (f : Nat → Option Nat) (sz : Nat)  : Met l my_X9_least (.code my_X9_least prog_10_method_73_code 1 (Option.some (Jvm.ClassFile.FieldType.object "java/lang/String")) :: ky_B) { frames := 8, cells := 8, slots := 194, locals := 201 } (ky_P G [.ref mo] (ky_WM G mo cs w f) sz (fun H => ky_IT G mo cs N f w.2.2.2.2 H)) (ky_Q (S := Int32) G (va_A (ky_WM G mo cs w f) sz) (fun v _ => ∃ z : Nat, v = some (.ref z)) (fun u => ky_WM G mo cs (u, w.2) f) (fun _ H => ky_IT G mo cs N f w.2.2.2.2 H)) (8) (194) (va_A (ky_WM G mo cs w f) sz) := by
  refine ky_start (by decide) (Nat.le_of_ble_eq_true rfl) (fun p e s m below meth c F hE A hAe hsz hA hfr hP hD hS hX ls hl => ?_)
  obtain ⟨hx, hb, hml, hown, hr, hlocks, hts⟩ := id F
  have hl : lv_has ls 1 [(0, .ref mo)] := hl
  have hP : va_P G.1 kcl [(mo, .inr (5, [.int (w.1), .ref cs, .int (w.2.1), .int (w.2.2.1), .int (w.2.2.2.1)])), (cs, .inl (G.2.1 3, 6, .inr (.inr (.inr (.inr (f))))))] s.heap := hP
  have hD : va_D A [(mo, .inr (5, [.int (w.1), .ref cs, .int (w.2.1), .int (w.2.2.1), .int (w.2.2.2.1)])), (cs, .inl (G.2.1 3, 6, .inr (.inr (.inr (.inr (f))))))] := hD
  have hIT0 := hX
  refine lv_aload_n hx hb dc_X9_least_0 rfl (lv_at hl 0 rfl) ?_
  refine lv_iconst (v := 0) hx hb dc_X9_least_1 (by decide) ?_
  refine va_put (D := G.1) (ci := 5) (v := .int ((0 : Int32))) (ty := .int) (C := RX9) (T := TX9) (N := 5) hx hb hts ki_X9 tyX9 tyX9_ok nmX9 hown hE.1 hP hD hS 0 rfl rfl 0 (by decide) (hts _ kw_6_19) (fun _ h9 => h9) rfl (by decide +kernel) rfl rfl (Nat.le_of_ble_eq_true rfl) dc_X9_least_2 (fun H locs hP hD hS => ?_)
  have hP : va_P G.1 kcl [(mo, .inr (5, [.int ((0 : Int32)), .ref cs, .int (w.2.1), .int (w.2.2.1), .int (w.2.2.2.1)])), (cs, .inl (G.2.1 3, 6, .inr (.inr (.inr (.inr (f))))))] H := hP
  have hD : va_D A [(mo, .inr (5, [.int ((0 : Int32)), .ref cs, .int (w.2.1), .int (w.2.2.1), .int (w.2.2.2.1)])), (cs, .inl (G.2.1 3, 6, .inr (.inr (.inr (.inr (f))))))] := hD
  refine lv_aload_n hx hb dc_X9_least_5 rfl (lv_at hl 0 rfl) ?_
  refine lv_iconst (v := 0) hx hb dc_X9_least_6 (by decide) ?_
  have hIT := hIT0.ro hAe hS
  refine ky_cVh (As := [.int ((0 : Int32))]) (wr := []) F (hE.at hfr hS) hfr (mt_X9_end l G mo cs N ((0 : Int32), w.2.1, w.2.2.1, w.2.2.2.1, w.2.2.2.2) f (0 : Int32) H.size ) kv_X9_251 ⟨⟨rfl, rfl⟩, Nat.le_of_ble_eq_true rfl, Nat.le_of_ble_eq_true rfl⟩ rfl hl.1 rfl (Nat.le_of_ble_eq_true rfl) ⟨Nat.le_of_ble_eq_true rfl, Nat.le_of_ble_eq_true rfl⟩ (va_recv hE.1 hP (ci := 5) (q0 := 0) rfl rfl) hIT hP hD hS hA [0, 1] [] rfl rfl (by decide) (by decide) (by decide) dc_X9_least_7 ?_
  rintro v9 ⟨z_0, y_0, n_0, g_0⟩ H locs ⟨rfl, hn_0, hg_0⟩ hP hD hS - hz hk9
  have hP : va_P G.1 kcl [(mo, .inr (5, [.int ((0 : Int32)), .ref cs, .int (w.2.1), .int (w.2.2.1), .int (w.2.2.2.1)])), (cs, .inl (G.2.1 3, 6, .inr (.inr (.inr (.inr (f)))))), (z_0, .inr (7, [.ref y_0, .int (0), .int (0), .int (0)])), (y_0, .inl (G.2.1 0, n_0, .inl (g_0)))] H := hP
  have hD : va_D A [(mo, .inr (5, [.int ((0 : Int32)), .ref cs, .int (w.2.1), .int (w.2.2.1), .int (w.2.2.2.1)])), (cs, .inl (G.2.1 3, 6, .inr (.inr (.inr (.inr (f)))))), (z_0, .inr (7, [.ref y_0, .int (0), .int (0), .int (0)])), (y_0, .inl (G.2.1 0, n_0, .inl (g_0)))] := hD
  refine W.widen (k := 8) (n := 194) (by first | exact Nat.le_refl _ | omega) (by first | exact Nat.le_refl _ | omega) ?_
  have hP9 := hP.sub (ws' := [(mo, .inr (5, [.int ((0 : Int32)), .ref cs, .int (w.2.1), .int (w.2.2.1), .int (w.2.2.2.1)])), (cs, .inl (G.2.1 3, 6, .inr (.inr (.inr (.inr (f))))))]) [0, 1] rfl
  have hD9 := hD.sub (ws' := [(mo, .inr (5, [.int ((0 : Int32)), .ref cs, .int (w.2.1), .int (w.2.2.1), .int (w.2.2.2.1)])), (cs, .inl (G.2.1 3, 6, .inr (.inr (.inr (.inr (f))))))]) [0, 1] (by decide) rfl
  refine W.widen (k := 8) (n := 194) (Nat.le_of_ble_eq_true rfl) (Nat.le_of_ble_eq_true rfl) ?_
  exact W.aret (v := .ref z_0) hx hb hr (Or.inl ⟨_, rfl⟩) (Or.inr ⟨_, rfl⟩) (fun t ht hW => ⟨⟨_, (0 : Int32), rfl, ⟨_, rfl⟩, by rw [ht]; exact hP9, hD9, by rw [ht]; exact hIT0.ro hAe hS⟩, hS.F ht⟩) hS.2.2 dc_X9_least_10
end
