/-- the odd part of a number and the power that goes with it, as the reference finds them -/
def md_od : Nat → Nat → Int32 → Nat × Int32
  | 0, v, pw => (v, pw)
  | n + 1, v, pw => if v % 2 = 0 then md_od n (v / 2) (pw + 1) else (v, pw)
theorem md_odE {n v : Nat} {pw : Int32} (h : v % 2 = 0) : md_od (n + 1) v pw = md_od n (v / 2) (pw + 1) := by rw [md_od, if_pos h]
theorem md_odO {n v : Nat} {pw : Int32} (h : ¬ v % 2 = 0) : md_od (n + 1) v pw = (v, pw) := by rw [md_od, if_neg h]
def md_R (v : Int32 × Int64) : Nat × Int32 := md_od (fn_X8_many v).toInt.toNat (fn_X8_many v).toInt.toNat (fn_X8_power v)
theorem md_R0 {v : Int32 × Int64} {k : Nat} (h : fn_X8_many v = lN k) (hk : k < 2 ^ 53) : md_od k k (fn_X8_power v) = md_R v := by
  unfold md_R
  rw [h, pk_lT (show k < 2 ^ 63 by omega), Int.toNat_natCast]
def md_tl (v : Int32 × Int64) : Nat := (if v.1 = (0 : Int32) then 0 else 1) + (if lg_cmp v.2 (0 : Int64) = (0 : Int32) then 1 else if fn_X8_isEndless v = (0 : Int32) then ky_szJ (lN (md_R v).1) + 3 + ky_szI (md_R v).2 else 1)
theorem ky_odd {v : Nat} (hv : v < 2 ^ 63) (h : ¬ lg_cmp ((lN v) - (lN v) / ((2 : Int64)) * ((2 : Int64))) 0 = 0) : ¬ v % 2 = 0 := by
  intro z
  apply h
  have h3 : lN v - lN v / lN 2 * lN 2 = lN (v % 2) := pk_lRem hv (by decide) (by decide)
  exact (lg_cmp_eq _ _).mpr (h3.trans (by rw [z]; rfl))
set_option linter.constructorNameAsVariable false in
set_option maxHeartbeats 4000000 in
set_option maxRecDepth 100000 in
theorem ml_X8_text_L761 {p : Program} {l : Launch} {e : Env} {s : State} {m : MethodId} {args : Array Value} {below : List Frame} {meth : Method} {c : Code} {G : ky_G} {A : Nat → Prop} {b0 : Nat} {v0 : Int32 × Int64} (F : ky_F p s m meth c my_X8_text.cls prog_11_method_15_code 5 (Option.some (Jvm.ClassFile.FieldType.object "java/lang/String")) args) (hE : ky_E G s) (hA : ∀ q, s.heap.size ≤ q → A q) (hfr : ∀ q, A q → ky_fr G q)   : ∀ (n9 : Nat) (ah : Nat) (wA : Nat) (gA : Nat → Int32) (v8 : Nat) (pw : Int32) (hkA : ky_Str G ah wA gA) (hwA : wA ≤ 1) (hn9 : v8 ≤ n9) (hv1 : 1 ≤ v8) (hv2 : v8 < 2 ^ 53) (hR : md_od n9 v8 pw = md_R v0) (hT : md_tl v0 = wA + (ky_szJ (lN (md_R v0).1) + 3 + ky_szI (md_R v0).2)) (H : Heap) (locs : List Loc), va_P G.1 kcl [] H → va_D A [] → va_S A s.heap H locs →  ∀ ls : Array Slot, lv_has ls 5 [(1, .ref ah), (2, .long (lN v8)), (4, .int (pw))] → W p l e { frames := 6, cells := 8, slots := 194, locals := 151 } s m args below meth c H locs (0) (0) (MQ below (ky_Q (S := Nat × Nat × Nat × (Nat → Int32)) G A (fun v u => v = some (.ref u.1) ∧ u.2.2.1 = md_tl v0 ∧ ky_fit u.2.2.2) (fun u => ky_WZ G u) (fun _ _ => True)) args s (8) (194) A) (F0 m 76 ls []) := by
  obtain ⟨hx, hb, hml, hown, hr, hlocks, hts⟩ := id F
  intro n9
  induction n9 with
  | zero => intro ah wA gA v8 pw hkA hwA hn9 hv1 hv2 hR hT; exact False.elim (by omega)
  | succ n9 ih =>
      intro ah wA gA v8 pw hkA hwA hn9 hv1 hv2 hR hT H locs hP hD hS  ls hl
      refine lv_lload_n hx hb dc_X8_text_76 rfl (lv_at hl 1 rfl) ?_
      refine lv_ldc2 (v := 2) hx hb hown (hts _ kw_6_164) dc_X8_text_77 ?_
      refine lv_lrem hx hb dc_X8_text_80 (by decide) ?_
      refine lv_lconst (v := 0) hx hb dc_X8_text_81 (by decide) ?_
      refine W.lcmp hx hb dc_X8_text_82 ?_
      refine lv_if_ne (tgt := 98) hx hb dc_X8_text_83 (by decide) (fun c_0 => ?_) (fun c_0 => ?_)
      · skip
        have hsz := ky_lNsz (v := v8) (by omega)
        have hsi := ky_szI_le (pw)
        have e9 : (v8, pw) = md_R v0 := (md_odO (ky_odd (by omega) c_0)).symm.trans hR
        have e8 : (md_R v0).1 = v8 := by rw [← e9]
        have e7 : (md_R v0).2 = pw := by rw [← e9]
        refine va_new (ci := 6) (fs := [.null, .int (0), .int (0), .int (0)]) (C := RJ4) (T := TJ4) (N := 4) hx hb hts ki_J4 tyJ4 tyJ4_ok hown (hts _ kw_7_51) (hts _ kw_1_45) (hts _ kw_1_4) hE.1 hP hD hS hA rfl (fun j hj => by rcases (show j = 0 ∨ j = 1 ∨ j = 2 ∨ j = 3 by omega) with rfl | rfl | rfl | rfl <;> rfl) (Nat.le_of_ble_eq_true rfl) (Nat.le_of_ble_eq_true rfl) dc_X8_text_98 (fun q_1 H hP hD hS => ?_)
        have hP : va_P G.1 kcl [(q_1, .inr (6, [.null, .int (0), .int (0), .int (0)]))] H := hP
        have hD : va_D A [(q_1, .inr (6, [.null, .int (0), .int (0), .int (0)]))] := hD
        refine W.widen (k := 1) (n := 4) (Nat.le_refl _) (Nat.le_refl _) ?_
        refine lv_dup hx hb dc_X8_text_101 rfl ?_
        refine ky_cIh (As := []) (wr := []) F (hE.at hfr hS) hfr (mt_J4_init_da8c8 l G q_1 H.size ) kI_X8_61 ⟨⟨rfl, rfl⟩, Nat.le_of_ble_eq_true rfl, Nat.le_of_ble_eq_true rfl⟩ rfl hl.1 rfl (Nat.le_of_ble_eq_true rfl) ⟨Nat.le_of_ble_eq_true rfl, Nat.le_of_ble_eq_true rfl⟩ trivial hP hD hS hA [0] [] rfl rfl (by decide) (by decide) (by decide) dc_X8_text_102 ?_
        rintro v9 va_2 H locs rfl hP hD hS - hz hk9
        have hP : va_P G.1 kcl [(q_1, .inr (6, [.ref va_2, .int (0), .int (0), .int (nI (0))])), (va_2, .inl (G.2.1 0, 16, .inl (fun _ => 0)))] H := hP
        have hD : va_D A [(q_1, .inr (6, [.ref va_2, .int (0), .int (0), .int (nI (0))])), (va_2, .inl (G.2.1 0, 16, .inl (fun _ => 0)))] := hD
        refine W.widen (k := 2) (n := 20) (by first | exact Nat.le_refl _ | omega) (by first | exact Nat.le_refl _ | omega) ?_
        refine lv_aload_n hx hb dc_X8_text_105 rfl (lv_at hl 0 rfl) ?_
        refine ky_cVh (As := [.ref ah]) (wr := []) F (hE.at hfr hS) hfr (mt_J4_append_15ec4 l G q_1 va_2 16 0 (fun _ => 0) 0 ah wA gA H.size (Or.inl rfl) ky_fit0 hkA (by omega)) kv_X8_62 ⟨⟨rfl, rfl⟩, Nat.le_of_ble_eq_true rfl, Nat.le_of_ble_eq_true rfl⟩ rfl hl.1 rfl (Nat.le_of_ble_eq_true rfl) ⟨Nat.le_trans (ky_gp 2 16 (0 + wA)) (Nat.le_of_ble_eq_true rfl), Nat.le_trans (ky_gp2 20 16 (0 + wA)) (Nat.le_of_ble_eq_true rfl)⟩ (va_recv hE.1 hP (ci := 6) (q0 := 0) rfl rfl) trivial hP hD hS hA [0, 1] [] rfl rfl (by decide) (by decide) (by decide) dc_X8_text_106 ?_
        rintro v9 ⟨va_3, f_3⟩ H locs ⟨rfl, hf_3⟩ hP hD hS - hz hk9
        have hP : va_P G.1 kcl [(q_1, .inr (6, [.ref va_3, .int (0), .int (0), .int (nI (0 + wA))])), (va_3, .inl (G.2.1 0, ky_cap 16 (0 + wA), .inl (f_3)))] H := hP
        have hD : va_D A [(q_1, .inr (6, [.ref va_3, .int (0), .int (0), .int (nI (0 + wA))])), (va_3, .inl (G.2.1 0, ky_cap 16 (0 + wA), .inl (f_3)))] := hD
        refine W.widen (k := 3) (n := 54) (ky_gp 2 16 (0 + wA)) (ky_gp2 20 16 (0 + wA)) ?_
        refine lv_lload_n hx hb dc_X8_text_109 rfl (lv_at hl 1 rfl) ?_
        refine ky_cVh (As := [.long (lN v8)]) (wr := []) F (hE.at hfr hS) hfr (mt_J4_append_f7089 l G q_1 va_3 (ky_cap 16 (0 + wA)) (0 + wA) f_3 0 (lN v8) H.size (ky_m2.cap (Or.inl rfl)) hf_3 (by omega)) kv_X8_76 ⟨⟨rfl, rfl⟩, Nat.le_of_ble_eq_true rfl, Nat.le_of_ble_eq_true rfl⟩ rfl hl.1 rfl (Nat.le_of_ble_eq_true rfl) ⟨Nat.le_trans (ky_gp 3 (ky_cap 16 (0 + wA)) (0 + wA + ky_szJ (lN v8))) (Nat.le_of_ble_eq_true rfl), Nat.le_trans (ky_gp2 54 (ky_cap 16 (0 + wA)) (0 + wA + ky_szJ (lN v8))) (Nat.le_of_ble_eq_true rfl)⟩ (va_recv hE.1 hP (ci := 6) (q0 := 0) rfl rfl) trivial hP hD hS hA [0, 1] [] rfl rfl (by decide) (by decide) (by decide) dc_X8_text_110 ?_
        rintro v9 ⟨va_4, f_4⟩ H locs ⟨rfl, hf_4⟩ hP hD hS - hz hk9
        have hP : va_P G.1 kcl [(q_1, .inr (6, [.ref va_4, .int (0), .int (0), .int (nI (0 + wA + ky_szJ (lN v8)))])), (va_4, .inl (G.2.1 0, ky_cap (ky_cap 16 (0 + wA)) (0 + wA + ky_szJ (lN v8)), .inl (f_4)))] H := hP
        have hD : va_D A [(q_1, .inr (6, [.ref va_4, .int (0), .int (0), .int (nI (0 + wA + ky_szJ (lN v8)))])), (va_4, .inl (G.2.1 0, ky_cap (ky_cap 16 (0 + wA)) (0 + wA + ky_szJ (lN v8)), .inl (f_4)))] := hD
        refine W.widen (k := 4) (n := 88) (ky_gp 3 (ky_cap 16 (0 + wA)) (0 + wA + ky_szJ (lN v8))) (ky_gp2 54 (ky_cap 16 (0 + wA)) (0 + wA + ky_szJ (lN v8))) ?_
        obtain ⟨k_5, hR_5, hZ_5⟩ := ky_s6 hE
        refine va_ldcS hx hb hown hR_5 dc_X8_text_113 ?_
        refine ky_cVh (As := [.ref k_5]) (wr := []) F (hE.at hfr hS) hfr (mt_J4_append_15ec4 l G q_1 va_4 (ky_cap (ky_cap 16 (0 + wA)) (0 + wA + ky_szJ (lN v8))) (0 + wA + ky_szJ (lN v8)) f_4 0 k_5 3 (fun j => ([42, 50, 94] : List Int32).getD j 0) H.size (ky_m2.cap (ky_m2.cap (Or.inl rfl))) hf_4 hZ_5 (by omega)) kv_X8_62 ⟨⟨rfl, rfl⟩, Nat.le_of_ble_eq_true rfl, Nat.le_of_ble_eq_true rfl⟩ rfl hl.1 rfl (Nat.le_of_ble_eq_true rfl) ⟨Nat.le_trans (ky_gp 4 (ky_cap (ky_cap 16 (0 + wA)) (0 + wA + ky_szJ (lN v8))) (0 + wA + ky_szJ (lN v8) + 3)) (Nat.le_of_ble_eq_true rfl), Nat.le_trans (ky_gp2 88 (ky_cap (ky_cap 16 (0 + wA)) (0 + wA + ky_szJ (lN v8))) (0 + wA + ky_szJ (lN v8) + 3)) (Nat.le_of_ble_eq_true rfl)⟩ (va_recv hE.1 hP (ci := 6) (q0 := 0) rfl rfl) trivial hP hD hS hA [0, 1] [] rfl rfl (by decide) (by decide) (by decide) dc_X8_text_115 ?_
        rintro v9 ⟨va_6, f_6⟩ H locs ⟨rfl, hf_6⟩ hP hD hS - hz hk9
        have hP : va_P G.1 kcl [(q_1, .inr (6, [.ref va_6, .int (0), .int (0), .int (nI (0 + wA + ky_szJ (lN v8) + 3))])), (va_6, .inl (G.2.1 0, ky_cap (ky_cap (ky_cap 16 (0 + wA)) (0 + wA + ky_szJ (lN v8))) (0 + wA + ky_szJ (lN v8) + 3), .inl (f_6)))] H := hP
        have hD : va_D A [(q_1, .inr (6, [.ref va_6, .int (0), .int (0), .int (nI (0 + wA + ky_szJ (lN v8) + 3))])), (va_6, .inl (G.2.1 0, ky_cap (ky_cap (ky_cap 16 (0 + wA)) (0 + wA + ky_szJ (lN v8))) (0 + wA + ky_szJ (lN v8) + 3), .inl (f_6)))] := hD
        refine W.widen (k := 5) (n := 122) (ky_gp 4 (ky_cap (ky_cap 16 (0 + wA)) (0 + wA + ky_szJ (lN v8))) (0 + wA + ky_szJ (lN v8) + 3)) (ky_gp2 88 (ky_cap (ky_cap 16 (0 + wA)) (0 + wA + ky_szJ (lN v8))) (0 + wA + ky_szJ (lN v8) + 3)) ?_
        refine lv_iload hx hb dc_X8_text_118 (lv_at hl 2 rfl) ?_
        refine ky_cVh (As := [.int (pw)]) (wr := []) F (hE.at hfr hS) hfr (mt_J4_append_bf812 l G q_1 va_6 (ky_cap (ky_cap (ky_cap 16 (0 + wA)) (0 + wA + ky_szJ (lN v8))) (0 + wA + ky_szJ (lN v8) + 3)) (0 + wA + ky_szJ (lN v8) + 3) f_6 0 pw H.size (ky_m2.cap (ky_m2.cap (ky_m2.cap (Or.inl rfl)))) hf_6 (by omega)) kv_X8_81 ⟨⟨rfl, rfl⟩, Nat.le_of_ble_eq_true rfl, Nat.le_of_ble_eq_true rfl⟩ rfl hl.1 rfl (Nat.le_of_ble_eq_true rfl) ⟨Nat.le_trans (ky_gp 5 (ky_cap (ky_cap (ky_cap 16 (0 + wA)) (0 + wA + ky_szJ (lN v8))) (0 + wA + ky_szJ (lN v8) + 3)) (0 + wA + ky_szJ (lN v8) + 3 + ky_szI pw)) (Nat.le_of_ble_eq_true rfl), Nat.le_trans (ky_gp2 122 (ky_cap (ky_cap (ky_cap 16 (0 + wA)) (0 + wA + ky_szJ (lN v8))) (0 + wA + ky_szJ (lN v8) + 3)) (0 + wA + ky_szJ (lN v8) + 3 + ky_szI pw)) (Nat.le_of_ble_eq_true rfl)⟩ (va_recv hE.1 hP (ci := 6) (q0 := 0) rfl rfl) trivial hP hD hS hA [0, 1] [] rfl rfl (by decide) (by decide) (by decide) dc_X8_text_120 ?_
        rintro v9 ⟨va_7, f_7⟩ H locs ⟨rfl, hf_7⟩ hP hD hS - hz hk9
        have hP : va_P G.1 kcl [(q_1, .inr (6, [.ref va_7, .int (0), .int (0), .int (nI (0 + wA + ky_szJ (lN v8) + 3 + ky_szI pw))])), (va_7, .inl (G.2.1 0, ky_cap (ky_cap (ky_cap (ky_cap 16 (0 + wA)) (0 + wA + ky_szJ (lN v8))) (0 + wA + ky_szJ (lN v8) + 3)) (0 + wA + ky_szJ (lN v8) + 3 + ky_szI pw), .inl (f_7)))] H := hP
        have hD : va_D A [(q_1, .inr (6, [.ref va_7, .int (0), .int (0), .int (nI (0 + wA + ky_szJ (lN v8) + 3 + ky_szI pw))])), (va_7, .inl (G.2.1 0, ky_cap (ky_cap (ky_cap (ky_cap 16 (0 + wA)) (0 + wA + ky_szJ (lN v8))) (0 + wA + ky_szJ (lN v8) + 3)) (0 + wA + ky_szJ (lN v8) + 3 + ky_szI pw), .inl (f_7)))] := hD
        refine W.widen (k := 6) (n := 156) (ky_gp 5 (ky_cap (ky_cap (ky_cap 16 (0 + wA)) (0 + wA + ky_szJ (lN v8))) (0 + wA + ky_szJ (lN v8) + 3)) (0 + wA + ky_szJ (lN v8) + 3 + ky_szI pw)) (ky_gp2 122 (ky_cap (ky_cap (ky_cap 16 (0 + wA)) (0 + wA + ky_szJ (lN v8))) (0 + wA + ky_szJ (lN v8) + 3)) (0 + wA + ky_szJ (lN v8) + 3 + ky_szI pw)) ?_
        refine ky_cVh (As := []) (wr := []) F (hE.at hfr hS) hfr (mt_J4_toString_0e30d l G q_1 va_7 (ky_cap (ky_cap (ky_cap (ky_cap 16 (0 + wA)) (0 + wA + ky_szJ (lN v8))) (0 + wA + ky_szJ (lN v8) + 3)) (0 + wA + ky_szJ (lN v8) + 3 + ky_szI pw)) (0 + wA + ky_szJ (lN v8) + 3 + ky_szI pw) f_7 0 H.size (ky_m2.le (ky_m2.cap (ky_m2.cap (ky_m2.cap (Or.inl rfl)))) (by omega)).1 (ky_m2.le34 (ky_m2.cap (ky_m2.cap (ky_m2.cap (ky_m2.cap (Or.inl rfl)))))) hf_7) kv_X8_70 ⟨⟨rfl, rfl⟩, Nat.le_of_ble_eq_true rfl, Nat.le_of_ble_eq_true rfl⟩ rfl hl.1 rfl (Nat.le_of_ble_eq_true rfl) ⟨Nat.le_of_ble_eq_true rfl, Nat.le_of_ble_eq_true rfl⟩ (va_recv hE.1 hP (ci := 6) (q0 := 0) rfl rfl) trivial hP hD hS hA [0, 1] [] rfl rfl (by decide) (by decide) (by decide) dc_X8_text_123 ?_
        rintro v9 ⟨z_8, y_8, g_8⟩ H locs ⟨rfl, hg_8⟩ hP hD hS - hz hk9
        have hP : va_P G.1 kcl [(q_1, .inr (6, [.ref va_7, .int (0), .int (0), .int (nI (0 + wA + ky_szJ (lN v8) + 3 + ky_szI pw))])), (va_7, .inl (G.2.1 0, ky_cap (ky_cap (ky_cap (ky_cap 16 (0 + wA)) (0 + wA + ky_szJ (lN v8))) (0 + wA + ky_szJ (lN v8) + 3)) (0 + wA + ky_szJ (lN v8) + 3 + ky_szI pw), .inl (f_7))), (z_8, .inr (7, [.ref y_8, .int (0), .int (0), .int (0)])), (y_8, .inl (G.2.1 0, 0 + wA + ky_szJ (lN v8) + 3 + ky_szI pw, .inl (g_8)))] H := hP
        have hD : va_D A [(q_1, .inr (6, [.ref va_7, .int (0), .int (0), .int (nI (0 + wA + ky_szJ (lN v8) + 3 + ky_szI pw))])), (va_7, .inl (G.2.1 0, ky_cap (ky_cap (ky_cap (ky_cap 16 (0 + wA)) (0 + wA + ky_szJ (lN v8))) (0 + wA + ky_szJ (lN v8) + 3)) (0 + wA + ky_szJ (lN v8) + 3 + ky_szI pw), .inl (f_7))), (z_8, .inr (7, [.ref y_8, .int (0), .int (0), .int (0)])), (y_8, .inl (G.2.1 0, 0 + wA + ky_szJ (lN v8) + 3 + ky_szI pw, .inl (g_8)))] := hD
        refine W.widen (k := 8) (n := 194) (by first | exact Nat.le_refl _ | omega) (by first | exact Nat.le_refl _ | omega) ?_
        have hP9 := hP.sub (ws' := [(z_8, .inr (7, [.ref y_8, .int (0), .int (0), .int (0)])), (y_8, .inl (G.2.1 0, 0 + wA + ky_szJ (lN v8) + 3 + ky_szI pw, .inl (g_8)))]) [2, 3] rfl
        have hD9 := hD.sub (ws' := [(z_8, .inr (7, [.ref y_8, .int (0), .int (0), .int (0)])), (y_8, .inl (G.2.1 0, 0 + wA + ky_szJ (lN v8) + 3 + ky_szI pw, .inl (g_8)))]) [2, 3] (by decide) rfl
        refine W.widen (k := 8) (n := 194) (Nat.le_of_ble_eq_true rfl) (Nat.le_of_ble_eq_true rfl) ?_
        exact W.aret (v := .ref z_8) hx hb hr (Or.inl ⟨_, rfl⟩) (Or.inr ⟨_, rfl⟩) (fun t ht hW => ⟨⟨_, (z_8, y_8, 0 + wA + ky_szJ (lN v8) + 3 + ky_szI pw, g_8), rfl, ⟨rfl, (by show 0 + wA + ky_szJ (lN v8) + 3 + ky_szI pw = md_tl v0; rw [hT, e8, e7]; omega), hg_8⟩, by rw [ht]; exact hP9, hD9, trivial⟩, hS.F ht⟩) hS.2.2 dc_X8_text_126
      · skip
        refine lv_lload_n hx hb dc_X8_text_86 rfl (lv_at hl 1 rfl) ?_
        refine lv_ldc2 (v := 2) hx hb hown (hts _ kw_6_164) dc_X8_text_87 ?_
        refine lv_ldiv hx hb dc_X8_text_90 (by decide) ?_
        rw [show (((lN v8) / ((2 : Int64))) : Int64) = lN (v8 / 2) from ky_half (by omega)]
        refine lv_lstore_n (lv' := [(2, .long (lN (v8 / 2))), (1, .ref ah), (4, .int (pw))]) hx hb dc_X8_text_91 rfl hl (by decide) rfl (fun ls hl => ?_)
        refine lv_iinc (v := (pw) + 1) (lv' := [(4, .int ((pw) + 1)), (2, .long (lN (v8 / 2))), (1, .ref ah)]) hx hb dc_X8_text_92 hl (k := 2) rfl rfl (by decide) rfl (fun ls hl => ?_)
        refine lv_goto (tgt := 76) hx hb dc_X8_text_95 (by decide) ?_
        have he := ky_even (by omega) c_0
        refine W.widen (k := 0) (n := 0) (by first | exact Nat.le_refl _ | omega | exact Nat.zero_le _) (by first | exact Nat.le_refl _ | omega | exact Nat.zero_le _) ?_
        exact ih ah wA gA (v8 / 2) ((pw) + 1) hkA hwA (by omega) (by omega) (by omega) ((md_odE he).symm.trans hR) hT _ _ (hP.sub (ws' := []) [] rfl) (hD.sub (ws' := []) [] (by decide) rfl) hS  _ (lv_sub hl [2, 1, 0] rfl)
set_option linter.constructorNameAsVariable false in
set_option maxHeartbeats 4000000 in
set_option maxRecDepth 100000 in
theorem mt_X8_text1 (l : Launch) (G : ky_G) (b0 : Nat) (v0 : Int32 × Int64) (sz : Nat)  : Met l my_X8_text (.code my_X8_text prog_11_method_15_code 5 (Option.some (Jvm.ClassFile.FieldType.object "java/lang/String")) :: ky_B) { frames := 6, cells := 8, slots := 194, locals := 151 } (ky_P G [.ref b0] ([]) sz (fun H => ky_It G b0 v0 H)) (ky_Q (S := Nat × Nat × Nat × (Nat → Int32)) G (va_A ([]) sz) (fun v u => v = some (.ref u.1) ∧ u.2.2.1 = md_tl v0 ∧ ky_fit u.2.2.2) (fun u => ky_WZ G u) (fun _ _ => True)) (8) (194) (va_A ([]) sz) := by
  refine ky_start (by decide) (Nat.le_of_ble_eq_true rfl) (fun p e s m below meth c F hE A hAe hsz hA hfr hP hD hS hX ls hl => ?_)
  obtain ⟨hx, hb, hml, hown, hr, hlocks, hts⟩ := id F
  have hl : lv_has ls 5 [(0, .ref b0)] := hl
  have hP : va_P G.1 kcl [] s.heap := hP
  have hD : va_D A [] := hD
  have hna : ¬ A b0 := by rw [hAe]; exact ky_nfresh hX.low
  refine lv_aload_n hx hb dc_X8_text_0 rfl (lv_at hl 0 rfl) ?_
  have hI0 := ky_ro hX hna hS
  refine va_get (D := G.1) (ci := 4) (v := .int (v0.1)) (C := RX8) (T := TX8) (N := 2) hx hb hts ki_X8 hown hE.1 hI0 0 rfl rfl 0 (by decide) (hts _ kw_6_10) (fun _ h9 => h9) rfl dc_X8_text_1 ?_
  refine lv_if_ne (tgt := 12) hx hb dc_X8_text_4 (by decide) (fun c_0 => ?_) (fun c_0 => ?_)
  · skip
    obtain ⟨k_1, hR_1, hZ_1⟩ := ky_s3 hE
    refine va_ldcS hx hb hown hR_1 dc_X8_text_12 ?_
    refine lv_astore_n (lv' := [(1, .ref k_1), (0, .ref b0)]) hx hb dc_X8_text_14 rfl hl (by decide) rfl (fun ls hl => ?_)
    refine lv_aload_n hx hb dc_X8_text_15 rfl (lv_at hl 1 rfl) ?_
    have hI0 := ky_ro hX hna hS
    refine va_get (D := G.1) (ci := 4) (v := .long (v0.2)) (C := RX8) (T := TX8) (N := 2) hx hb hts ki_X8 hown hE.1 hI0 0 rfl rfl 1 (by decide) (hts _ kw_6_12) (fun _ h9 => h9) rfl dc_X8_text_16 ?_
    refine lv_lconst (v := 0) hx hb dc_X8_text_19 (by decide) ?_
    refine W.lcmp hx hb dc_X8_text_20 ?_
    refine lv_if_eq (tgt := 31) hx hb dc_X8_text_21 (by decide) (fun c_2 => ?_) (fun c_2 => ?_)
    · skip
      refine va_new (ci := 6) (fs := [.null, .int (0), .int (0), .int (0)]) (C := RJ4) (T := TJ4) (N := 4) hx hb hts ki_J4 tyJ4 tyJ4_ok hown (hts _ kw_7_51) (hts _ kw_1_45) (hts _ kw_1_4) hE.1 hP hD hS hA rfl (fun j hj => by rcases (show j = 0 ∨ j = 1 ∨ j = 2 ∨ j = 3 by omega) with rfl | rfl | rfl | rfl <;> rfl) (Nat.le_of_ble_eq_true rfl) (Nat.le_of_ble_eq_true rfl) dc_X8_text_31 (fun q_3 H hP hD hS => ?_)
      have hP : va_P G.1 kcl [(q_3, .inr (6, [.null, .int (0), .int (0), .int (0)]))] H := hP
      have hD : va_D A [(q_3, .inr (6, [.null, .int (0), .int (0), .int (0)]))] := hD
      refine W.widen (k := 1) (n := 4) (Nat.le_refl _) (Nat.le_refl _) ?_
      refine lv_dup hx hb dc_X8_text_34 rfl ?_
      refine ky_cIh (As := []) (wr := []) F (hE.at hfr hS) hfr (mt_J4_init_da8c8 l G q_3 H.size ) kI_X8_61 ⟨⟨rfl, rfl⟩, Nat.le_of_ble_eq_true rfl, Nat.le_of_ble_eq_true rfl⟩ rfl hl.1 rfl (Nat.le_of_ble_eq_true rfl) ⟨Nat.le_of_ble_eq_true rfl, Nat.le_of_ble_eq_true rfl⟩ trivial hP hD hS hA [0] [] rfl rfl (by decide) (by decide) (by decide) dc_X8_text_35 ?_
      rintro v9 va_4 H locs rfl hP hD hS - hz hk9
      have hP : va_P G.1 kcl [(q_3, .inr (6, [.ref va_4, .int (0), .int (0), .int (nI (0))])), (va_4, .inl (G.2.1 0, 16, .inl (fun _ => 0)))] H := hP
      have hD : va_D A [(q_3, .inr (6, [.ref va_4, .int (0), .int (0), .int (nI (0))])), (va_4, .inl (G.2.1 0, 16, .inl (fun _ => 0)))] := hD
      refine W.widen (k := 2) (n := 20) (by first | exact Nat.le_refl _ | omega) (by first | exact Nat.le_refl _ | omega) ?_
      refine lv_aload_n hx hb dc_X8_text_38 rfl (lv_at hl 0 rfl) ?_
      refine ky_cVh (As := [.ref k_1]) (wr := []) F (hE.at hfr hS) hfr (mt_J4_append_15ec4 l G q_3 va_4 16 0 (fun _ => 0) 0 k_1 1 (fun j => ([45] : List Int32).getD j 0) H.size (Or.inl rfl) ky_fit0 hZ_1 (by omega)) kv_X8_62 ⟨⟨rfl, rfl⟩, Nat.le_of_ble_eq_true rfl, Nat.le_of_ble_eq_true rfl⟩ rfl hl.1 rfl (Nat.le_of_ble_eq_true rfl) ⟨Nat.le_trans (ky_gp 2 16 (0 + 1)) (Nat.le_of_ble_eq_true rfl), Nat.le_trans (ky_gp2 20 16 (0 + 1)) (Nat.le_of_ble_eq_true rfl)⟩ (va_recv hE.1 hP (ci := 6) (q0 := 0) rfl rfl) trivial hP hD hS hA [0, 1] [] rfl rfl (by decide) (by decide) (by decide) dc_X8_text_39 ?_
      rintro v9 ⟨va_5, f_5⟩ H locs ⟨rfl, hf_5⟩ hP hD hS - hz hk9
      have hP : va_P G.1 kcl [(q_3, .inr (6, [.ref va_5, .int (0), .int (0), .int (nI (0 + 1))])), (va_5, .inl (G.2.1 0, ky_cap 16 (0 + 1), .inl (f_5)))] H := hP
      have hD : va_D A [(q_3, .inr (6, [.ref va_5, .int (0), .int (0), .int (nI (0 + 1))])), (va_5, .inl (G.2.1 0, ky_cap 16 (0 + 1), .inl (f_5)))] := hD
      refine W.widen (k := 3) (n := 54) (ky_gp 2 16 (0 + 1)) (ky_gp2 20 16 (0 + 1)) ?_
      refine lv_aload_n hx hb dc_X8_text_42 rfl (lv_at hl 1 rfl) ?_
      have hI0 := ky_ro hX hna hS
      refine va_get (D := G.1) (ci := 4) (v := .long (v0.2)) (C := RX8) (T := TX8) (N := 2) hx hb hts ki_X8 hown hE.1 hI0 0 rfl rfl 1 (by decide) (hts _ kw_6_12) (fun _ h9 => h9) rfl dc_X8_text_43 ?_
      refine lv_lconst (v := 0) hx hb dc_X8_text_46 (by decide) ?_
      refine W.lcmp hx hb dc_X8_text_47 ?_
      refine lv_if_ne (tgt := 56) hx hb dc_X8_text_48 (by decide) (fun c_6 => absurd (c_2) c_6) (fun _ => ?_)
      obtain ⟨k_7, hR_7, hZ_7⟩ := ky_s4 hE
      refine va_ldcS hx hb hown hR_7 dc_X8_text_51 ?_
      refine lv_goto (tgt := 58) hx hb dc_X8_text_53 (by decide) ?_
      refine ky_cVh (As := [.ref k_7]) (wr := []) F (hE.at hfr hS) hfr (mt_J4_append_15ec4 l G q_3 va_5 (ky_cap 16 (0 + 1)) (0 + 1) f_5 0 k_7 1 (fun j => ([48] : List Int32).getD j 0) H.size (ky_m2.cap (Or.inl rfl)) hf_5 hZ_7 (by omega)) kv_X8_62 ⟨⟨rfl, rfl⟩, Nat.le_of_ble_eq_true rfl, Nat.le_of_ble_eq_true rfl⟩ rfl hl.1 rfl (Nat.le_of_ble_eq_true rfl) ⟨Nat.le_trans (ky_gp 3 (ky_cap 16 (0 + 1)) (0 + 1 + 1)) (Nat.le_of_ble_eq_true rfl), Nat.le_trans (ky_gp2 54 (ky_cap 16 (0 + 1)) (0 + 1 + 1)) (Nat.le_of_ble_eq_true rfl)⟩ (va_recv hE.1 hP (ci := 6) (q0 := 0) rfl rfl) trivial hP hD hS hA [0, 1] [] rfl rfl (by decide) (by decide) (by decide) dc_X8_text_58 ?_
      rintro v9 ⟨va_8, f_8⟩ H locs ⟨rfl, hf_8⟩ hP hD hS - hz hk9
      have hP : va_P G.1 kcl [(q_3, .inr (6, [.ref va_8, .int (0), .int (0), .int (nI (0 + 1 + 1))])), (va_8, .inl (G.2.1 0, ky_cap (ky_cap 16 (0 + 1)) (0 + 1 + 1), .inl (f_8)))] H := hP
      have hD : va_D A [(q_3, .inr (6, [.ref va_8, .int (0), .int (0), .int (nI (0 + 1 + 1))])), (va_8, .inl (G.2.1 0, ky_cap (ky_cap 16 (0 + 1)) (0 + 1 + 1), .inl (f_8)))] := hD
      refine W.widen (k := 4) (n := 88) (ky_gp 3 (ky_cap 16 (0 + 1)) (0 + 1 + 1)) (ky_gp2 54 (ky_cap 16 (0 + 1)) (0 + 1 + 1)) ?_
      refine ky_cVh (As := []) (wr := []) F (hE.at hfr hS) hfr (mt_J4_toString_0e30d l G q_3 va_8 (ky_cap (ky_cap 16 (0 + 1)) (0 + 1 + 1)) (0 + 1 + 1) f_8 0 H.size (ky_m2.le (ky_m2.cap (Or.inl rfl)) (by omega)).1 (ky_m2.le34 (ky_m2.cap (ky_m2.cap (Or.inl rfl)))) hf_8) kv_X8_70 ⟨⟨rfl, rfl⟩, Nat.le_of_ble_eq_true rfl, Nat.le_of_ble_eq_true rfl⟩ rfl hl.1 rfl (Nat.le_of_ble_eq_true rfl) ⟨Nat.le_of_ble_eq_true rfl, Nat.le_of_ble_eq_true rfl⟩ (va_recv hE.1 hP (ci := 6) (q0 := 0) rfl rfl) trivial hP hD hS hA [0, 1] [] rfl rfl (by decide) (by decide) (by decide) dc_X8_text_61 ?_
      rintro v9 ⟨z_9, y_9, g_9⟩ H locs ⟨rfl, hg_9⟩ hP hD hS - hz hk9
      have hP : va_P G.1 kcl [(q_3, .inr (6, [.ref va_8, .int (0), .int (0), .int (nI (0 + 1 + 1))])), (va_8, .inl (G.2.1 0, ky_cap (ky_cap 16 (0 + 1)) (0 + 1 + 1), .inl (f_8))), (z_9, .inr (7, [.ref y_9, .int (0), .int (0), .int (0)])), (y_9, .inl (G.2.1 0, 0 + 1 + 1, .inl (g_9)))] H := hP
      have hD : va_D A [(q_3, .inr (6, [.ref va_8, .int (0), .int (0), .int (nI (0 + 1 + 1))])), (va_8, .inl (G.2.1 0, ky_cap (ky_cap 16 (0 + 1)) (0 + 1 + 1), .inl (f_8))), (z_9, .inr (7, [.ref y_9, .int (0), .int (0), .int (0)])), (y_9, .inl (G.2.1 0, 0 + 1 + 1, .inl (g_9)))] := hD
      refine W.widen (k := 6) (n := 126) (by first | exact Nat.le_refl _ | omega) (by first | exact Nat.le_refl _ | omega) ?_
      have hP9 := hP.sub (ws' := [(z_9, .inr (7, [.ref y_9, .int (0), .int (0), .int (0)])), (y_9, .inl (G.2.1 0, 0 + 1 + 1, .inl (g_9)))]) [2, 3] rfl
      have hD9 := hD.sub (ws' := [(z_9, .inr (7, [.ref y_9, .int (0), .int (0), .int (0)])), (y_9, .inl (G.2.1 0, 0 + 1 + 1, .inl (g_9)))]) [2, 3] (by decide) rfl
      refine W.widen (k := 8) (n := 194) (Nat.le_of_ble_eq_true rfl) (Nat.le_of_ble_eq_true rfl) ?_
      exact W.aret (v := .ref z_9) hx hb hr (Or.inl ⟨_, rfl⟩) (Or.inr ⟨_, rfl⟩) (fun t ht hW => ⟨⟨_, (z_9, y_9, 0 + 1 + 1, g_9), rfl, ⟨rfl, (by show 0 + 1 + 1 = md_tl v0; unfold md_tl; rw [if_neg c_0, if_pos c_2]), hg_9⟩, by rw [ht]; exact hP9, hD9, trivial⟩, hS.F ht⟩) hS.2.2 dc_X8_text_64
    · skip
      refine lv_aload_n hx hb dc_X8_text_24 rfl (lv_at hl 1 rfl) ?_
      have hI0 := ky_ro hX hna hS
      refine ky_cV1 (As := []) F (hE.at hfr hS) (mt_X8_isEndless l G (b0) (v0) ) kv_X8_45 ⟨⟨rfl, rfl⟩, by decide, by decide⟩ rfl hl.1 rfl (Nat.le_of_ble_eq_true rfl) ⟨Nat.le_of_ble_eq_true rfl, Nat.le_of_ble_eq_true rfl⟩ (va_recv hE.1 hI0 (ci := 4) (q0 := 0) rfl rfl) hI0 dc_X8_text_25 ?_
      refine lv_if_eq (tgt := 65) hx hb dc_X8_text_28 (by decide) (fun c_3 => ?_) (fun c_3 => ?_)
      · skip
        refine lv_aload_n hx hb dc_X8_text_65 rfl (lv_at hl 1 rfl) ?_
        have hI0 := ky_ro hX hna hS
        refine ky_cV1 (As := []) F (hE.at hfr hS) (mt_X8_many l G (b0) (v0) ) kv_X8_39 ⟨⟨rfl, rfl⟩, by decide, by decide⟩ rfl hl.1 rfl (Nat.le_of_ble_eq_true rfl) ⟨Nat.le_of_ble_eq_true rfl, Nat.le_of_ble_eq_true rfl⟩ (va_recv hE.1 hI0 (ci := 4) (q0 := 0) rfl rfl) hI0 dc_X8_text_66 ?_
        obtain ⟨v9, hv1, hv2, ev⟩ := ky_many_pos c_2
        rw [show ((fn_X8_many v0) : Int64) = lN v9 from ev]
        refine lv_lstore_n (lv' := [(2, .long (lN v9)), (1, .ref k_1), (0, .ref b0)]) hx hb dc_X8_text_69 rfl hl (by decide) rfl (fun ls hl => ?_)
        refine lv_aload_n hx hb dc_X8_text_70 rfl (lv_at hl 2 rfl) ?_
        have hI0 := ky_ro hX hna hS
        refine ky_cV1 (As := []) F (hE.at hfr hS) (mt_X8_power l G (b0) (v0) ) kv_X8_36 ⟨⟨rfl, rfl⟩, by decide, by decide⟩ rfl hl.1 rfl (Nat.le_of_ble_eq_true rfl) ⟨Nat.le_of_ble_eq_true rfl, Nat.le_of_ble_eq_true rfl⟩ (va_recv hE.1 hI0 (ci := 4) (q0 := 0) rfl rfl) hI0 dc_X8_text_71 ?_
        refine lv_istore (lv' := [(4, .int (fn_X8_power v0)), (2, .long (lN v9)), (1, .ref k_1), (0, .ref b0)]) hx hb dc_X8_text_74 hl (by decide) rfl (fun ls hl => ?_)
        refine W.widen (k := 0) (n := 0) (by first | exact Nat.le_refl _ | omega | exact Nat.zero_le _) (by first | exact Nat.le_refl _ | omega | exact Nat.zero_le _) ?_
        exact ml_X8_text_L761 (b0 := b0) (v0 := v0) F hE hA hfr   (v9) k_1 1 (fun j => ([45] : List Int32).getD j 0) v9 (fn_X8_power v0) hZ_1 (by decide) (Nat.le_refl _) hv1 hv2 (md_R0 ev hv2) (by unfold md_tl; rw [if_neg c_0, if_neg c_2, if_pos c_3]) _ _ (hP.sub (ws' := []) [] rfl) (hD.sub (ws' := []) [] (by decide) rfl) hS  _ (lv_sub hl [2, 1, 0] rfl)
      · skip
        refine va_new (ci := 6) (fs := [.null, .int (0), .int (0), .int (0)]) (C := RJ4) (T := TJ4) (N := 4) hx hb hts ki_J4 tyJ4 tyJ4_ok hown (hts _ kw_7_51) (hts _ kw_1_45) (hts _ kw_1_4) hE.1 hP hD hS hA rfl (fun j hj => by rcases (show j = 0 ∨ j = 1 ∨ j = 2 ∨ j = 3 by omega) with rfl | rfl | rfl | rfl <;> rfl) (Nat.le_of_ble_eq_true rfl) (Nat.le_of_ble_eq_true rfl) dc_X8_text_31 (fun q_4 H hP hD hS => ?_)
        have hP : va_P G.1 kcl [(q_4, .inr (6, [.null, .int (0), .int (0), .int (0)]))] H := hP
        have hD : va_D A [(q_4, .inr (6, [.null, .int (0), .int (0), .int (0)]))] := hD
        refine W.widen (k := 1) (n := 4) (Nat.le_refl _) (Nat.le_refl _) ?_
        refine lv_dup hx hb dc_X8_text_34 rfl ?_
        refine ky_cIh (As := []) (wr := []) F (hE.at hfr hS) hfr (mt_J4_init_da8c8 l G q_4 H.size ) kI_X8_61 ⟨⟨rfl, rfl⟩, Nat.le_of_ble_eq_true rfl, Nat.le_of_ble_eq_true rfl⟩ rfl hl.1 rfl (Nat.le_of_ble_eq_true rfl) ⟨Nat.le_of_ble_eq_true rfl, Nat.le_of_ble_eq_true rfl⟩ trivial hP hD hS hA [0] [] rfl rfl (by decide) (by decide) (by decide) dc_X8_text_35 ?_
        rintro v9 va_5 H locs rfl hP hD hS - hz hk9
        have hP : va_P G.1 kcl [(q_4, .inr (6, [.ref va_5, .int (0), .int (0), .int (nI (0))])), (va_5, .inl (G.2.1 0, 16, .inl (fun _ => 0)))] H := hP
        have hD : va_D A [(q_4, .inr (6, [.ref va_5, .int (0), .int (0), .int (nI (0))])), (va_5, .inl (G.2.1 0, 16, .inl (fun _ => 0)))] := hD
        refine W.widen (k := 2) (n := 20) (by first | exact Nat.le_refl _ | omega) (by first | exact Nat.le_refl _ | omega) ?_
        refine lv_aload_n hx hb dc_X8_text_38 rfl (lv_at hl 0 rfl) ?_
        refine ky_cVh (As := [.ref k_1]) (wr := []) F (hE.at hfr hS) hfr (mt_J4_append_15ec4 l G q_4 va_5 16 0 (fun _ => 0) 0 k_1 1 (fun j => ([45] : List Int32).getD j 0) H.size (Or.inl rfl) ky_fit0 hZ_1 (by omega)) kv_X8_62 ⟨⟨rfl, rfl⟩, Nat.le_of_ble_eq_true rfl, Nat.le_of_ble_eq_true rfl⟩ rfl hl.1 rfl (Nat.le_of_ble_eq_true rfl) ⟨Nat.le_trans (ky_gp 2 16 (0 + 1)) (Nat.le_of_ble_eq_true rfl), Nat.le_trans (ky_gp2 20 16 (0 + 1)) (Nat.le_of_ble_eq_true rfl)⟩ (va_recv hE.1 hP (ci := 6) (q0 := 0) rfl rfl) trivial hP hD hS hA [0, 1] [] rfl rfl (by decide) (by decide) (by decide) dc_X8_text_39 ?_
        rintro v9 ⟨va_6, f_6⟩ H locs ⟨rfl, hf_6⟩ hP hD hS - hz hk9
        have hP : va_P G.1 kcl [(q_4, .inr (6, [.ref va_6, .int (0), .int (0), .int (nI (0 + 1))])), (va_6, .inl (G.2.1 0, ky_cap 16 (0 + 1), .inl (f_6)))] H := hP
        have hD : va_D A [(q_4, .inr (6, [.ref va_6, .int (0), .int (0), .int (nI (0 + 1))])), (va_6, .inl (G.2.1 0, ky_cap 16 (0 + 1), .inl (f_6)))] := hD
        refine W.widen (k := 3) (n := 54) (ky_gp 2 16 (0 + 1)) (ky_gp2 20 16 (0 + 1)) ?_
        refine lv_aload_n hx hb dc_X8_text_42 rfl (lv_at hl 1 rfl) ?_
        have hI0 := ky_ro hX hna hS
        refine va_get (D := G.1) (ci := 4) (v := .long (v0.2)) (C := RX8) (T := TX8) (N := 2) hx hb hts ki_X8 hown hE.1 hI0 0 rfl rfl 1 (by decide) (hts _ kw_6_12) (fun _ h9 => h9) rfl dc_X8_text_43 ?_
        refine lv_lconst (v := 0) hx hb dc_X8_text_46 (by decide) ?_
        refine W.lcmp hx hb dc_X8_text_47 ?_
        refine lv_if_ne (tgt := 56) hx hb dc_X8_text_48 (by decide) (fun _ => ?_) (fun c_7 => absurd c_7 (c_2))
        obtain ⟨k_8, hR_8, hZ_8⟩ := ky_s5 hE
        refine va_ldcS hx hb hown hR_8 dc_X8_text_56 ?_
        refine ky_cVh (As := [.ref k_8]) (wr := []) F (hE.at hfr hS) hfr (mt_J4_append_15ec4 l G q_4 va_6 (ky_cap 16 (0 + 1)) (0 + 1) f_6 0 k_8 1 (fun j => ([69] : List Int32).getD j 0) H.size (ky_m2.cap (Or.inl rfl)) hf_6 hZ_8 (by omega)) kv_X8_62 ⟨⟨rfl, rfl⟩, Nat.le_of_ble_eq_true rfl, Nat.le_of_ble_eq_true rfl⟩ rfl hl.1 rfl (Nat.le_of_ble_eq_true rfl) ⟨Nat.le_trans (ky_gp 3 (ky_cap 16 (0 + 1)) (0 + 1 + 1)) (Nat.le_of_ble_eq_true rfl), Nat.le_trans (ky_gp2 54 (ky_cap 16 (0 + 1)) (0 + 1 + 1)) (Nat.le_of_ble_eq_true rfl)⟩ (va_recv hE.1 hP (ci := 6) (q0 := 0) rfl rfl) trivial hP hD hS hA [0, 1] [] rfl rfl (by decide) (by decide) (by decide) dc_X8_text_58 ?_
        rintro v9 ⟨va_9, f_9⟩ H locs ⟨rfl, hf_9⟩ hP hD hS - hz hk9
        have hP : va_P G.1 kcl [(q_4, .inr (6, [.ref va_9, .int (0), .int (0), .int (nI (0 + 1 + 1))])), (va_9, .inl (G.2.1 0, ky_cap (ky_cap 16 (0 + 1)) (0 + 1 + 1), .inl (f_9)))] H := hP
        have hD : va_D A [(q_4, .inr (6, [.ref va_9, .int (0), .int (0), .int (nI (0 + 1 + 1))])), (va_9, .inl (G.2.1 0, ky_cap (ky_cap 16 (0 + 1)) (0 + 1 + 1), .inl (f_9)))] := hD
        refine W.widen (k := 4) (n := 88) (ky_gp 3 (ky_cap 16 (0 + 1)) (0 + 1 + 1)) (ky_gp2 54 (ky_cap 16 (0 + 1)) (0 + 1 + 1)) ?_
        refine ky_cVh (As := []) (wr := []) F (hE.at hfr hS) hfr (mt_J4_toString_0e30d l G q_4 va_9 (ky_cap (ky_cap 16 (0 + 1)) (0 + 1 + 1)) (0 + 1 + 1) f_9 0 H.size (ky_m2.le (ky_m2.cap (Or.inl rfl)) (by omega)).1 (ky_m2.le34 (ky_m2.cap (ky_m2.cap (Or.inl rfl)))) hf_9) kv_X8_70 ⟨⟨rfl, rfl⟩, Nat.le_of_ble_eq_true rfl, Nat.le_of_ble_eq_true rfl⟩ rfl hl.1 rfl (Nat.le_of_ble_eq_true rfl) ⟨Nat.le_of_ble_eq_true rfl, Nat.le_of_ble_eq_true rfl⟩ (va_recv hE.1 hP (ci := 6) (q0 := 0) rfl rfl) trivial hP hD hS hA [0, 1] [] rfl rfl (by decide) (by decide) (by decide) dc_X8_text_61 ?_
        rintro v9 ⟨z_10, y_10, g_10⟩ H locs ⟨rfl, hg_10⟩ hP hD hS - hz hk9
        have hP : va_P G.1 kcl [(q_4, .inr (6, [.ref va_9, .int (0), .int (0), .int (nI (0 + 1 + 1))])), (va_9, .inl (G.2.1 0, ky_cap (ky_cap 16 (0 + 1)) (0 + 1 + 1), .inl (f_9))), (z_10, .inr (7, [.ref y_10, .int (0), .int (0), .int (0)])), (y_10, .inl (G.2.1 0, 0 + 1 + 1, .inl (g_10)))] H := hP
        have hD : va_D A [(q_4, .inr (6, [.ref va_9, .int (0), .int (0), .int (nI (0 + 1 + 1))])), (va_9, .inl (G.2.1 0, ky_cap (ky_cap 16 (0 + 1)) (0 + 1 + 1), .inl (f_9))), (z_10, .inr (7, [.ref y_10, .int (0), .int (0), .int (0)])), (y_10, .inl (G.2.1 0, 0 + 1 + 1, .inl (g_10)))] := hD
        refine W.widen (k := 6) (n := 126) (by first | exact Nat.le_refl _ | omega) (by first | exact Nat.le_refl _ | omega) ?_
        have hP9 := hP.sub (ws' := [(z_10, .inr (7, [.ref y_10, .int (0), .int (0), .int (0)])), (y_10, .inl (G.2.1 0, 0 + 1 + 1, .inl (g_10)))]) [2, 3] rfl
        have hD9 := hD.sub (ws' := [(z_10, .inr (7, [.ref y_10, .int (0), .int (0), .int (0)])), (y_10, .inl (G.2.1 0, 0 + 1 + 1, .inl (g_10)))]) [2, 3] (by decide) rfl
        refine W.widen (k := 8) (n := 194) (Nat.le_of_ble_eq_true rfl) (Nat.le_of_ble_eq_true rfl) ?_
        exact W.aret (v := .ref z_10) hx hb hr (Or.inl ⟨_, rfl⟩) (Or.inr ⟨_, rfl⟩) (fun t ht hW => ⟨⟨_, (z_10, y_10, 0 + 1 + 1, g_10), rfl, ⟨rfl, (by show 0 + 1 + 1 = md_tl v0; unfold md_tl; rw [if_neg c_0, if_neg c_2, if_neg c_3]), hg_10⟩, by rw [ht]; exact hP9, hD9, trivial⟩, hS.F ht⟩) hS.2.2 dc_X8_text_64
  · skip
    obtain ⟨k_1, hR_1, hZ_1⟩ := ky_s2 hE
    refine va_ldcS hx hb hown hR_1 dc_X8_text_7 ?_
    refine lv_goto (tgt := 14) hx hb dc_X8_text_9 (by decide) ?_
    refine lv_astore_n (lv' := [(1, .ref k_1), (0, .ref b0)]) hx hb dc_X8_text_14 rfl hl (by decide) rfl (fun ls hl => ?_)
    refine lv_aload_n hx hb dc_X8_text_15 rfl (lv_at hl 1 rfl) ?_
    have hI0 := ky_ro hX hna hS
    refine va_get (D := G.1) (ci := 4) (v := .long (v0.2)) (C := RX8) (T := TX8) (N := 2) hx hb hts ki_X8 hown hE.1 hI0 0 rfl rfl 1 (by decide) (hts _ kw_6_12) (fun _ h9 => h9) rfl dc_X8_text_16 ?_
    refine lv_lconst (v := 0) hx hb dc_X8_text_19 (by decide) ?_
    refine W.lcmp hx hb dc_X8_text_20 ?_
    refine lv_if_eq (tgt := 31) hx hb dc_X8_text_21 (by decide) (fun c_2 => ?_) (fun c_2 => ?_)
    · skip
      refine va_new (ci := 6) (fs := [.null, .int (0), .int (0), .int (0)]) (C := RJ4) (T := TJ4) (N := 4) hx hb hts ki_J4 tyJ4 tyJ4_ok hown (hts _ kw_7_51) (hts _ kw_1_45) (hts _ kw_1_4) hE.1 hP hD hS hA rfl (fun j hj => by rcases (show j = 0 ∨ j = 1 ∨ j = 2 ∨ j = 3 by omega) with rfl | rfl | rfl | rfl <;> rfl) (Nat.le_of_ble_eq_true rfl) (Nat.le_of_ble_eq_true rfl) dc_X8_text_31 (fun q_3 H hP hD hS => ?_)
      have hP : va_P G.1 kcl [(q_3, .inr (6, [.null, .int (0), .int (0), .int (0)]))] H := hP
      have hD : va_D A [(q_3, .inr (6, [.null, .int (0), .int (0), .int (0)]))] := hD
      refine W.widen (k := 1) (n := 4) (Nat.le_refl _) (Nat.le_refl _) ?_
      refine lv_dup hx hb dc_X8_text_34 rfl ?_
      refine ky_cIh (As := []) (wr := []) F (hE.at hfr hS) hfr (mt_J4_init_da8c8 l G q_3 H.size ) kI_X8_61 ⟨⟨rfl, rfl⟩, Nat.le_of_ble_eq_true rfl, Nat.le_of_ble_eq_true rfl⟩ rfl hl.1 rfl (Nat.le_of_ble_eq_true rfl) ⟨Nat.le_of_ble_eq_true rfl, Nat.le_of_ble_eq_true rfl⟩ trivial hP hD hS hA [0] [] rfl rfl (by decide) (by decide) (by decide) dc_X8_text_35 ?_
      rintro v9 va_4 H locs rfl hP hD hS - hz hk9
      have hP : va_P G.1 kcl [(q_3, .inr (6, [.ref va_4, .int (0), .int (0), .int (nI (0))])), (va_4, .inl (G.2.1 0, 16, .inl (fun _ => 0)))] H := hP
      have hD : va_D A [(q_3, .inr (6, [.ref va_4, .int (0), .int (0), .int (nI (0))])), (va_4, .inl (G.2.1 0, 16, .inl (fun _ => 0)))] := hD
      refine W.widen (k := 2) (n := 20) (by first | exact Nat.le_refl _ | omega) (by first | exact Nat.le_refl _ | omega) ?_
      refine lv_aload_n hx hb dc_X8_text_38 rfl (lv_at hl 0 rfl) ?_
      refine ky_cVh (As := [.ref k_1]) (wr := []) F (hE.at hfr hS) hfr (mt_J4_append_15ec4 l G q_3 va_4 16 0 (fun _ => 0) 0 k_1 0 (fun j => ([] : List Int32).getD j 0) H.size (Or.inl rfl) ky_fit0 hZ_1 (by omega)) kv_X8_62 ⟨⟨rfl, rfl⟩, Nat.le_of_ble_eq_true rfl, Nat.le_of_ble_eq_true rfl⟩ rfl hl.1 rfl (Nat.le_of_ble_eq_true rfl) ⟨Nat.le_trans (ky_gp 2 16 (0 + 0)) (Nat.le_of_ble_eq_true rfl), Nat.le_trans (ky_gp2 20 16 (0 + 0)) (Nat.le_of_ble_eq_true rfl)⟩ (va_recv hE.1 hP (ci := 6) (q0 := 0) rfl rfl) trivial hP hD hS hA [0, 1] [] rfl rfl (by decide) (by decide) (by decide) dc_X8_text_39 ?_
      rintro v9 ⟨va_5, f_5⟩ H locs ⟨rfl, hf_5⟩ hP hD hS - hz hk9
      have hP : va_P G.1 kcl [(q_3, .inr (6, [.ref va_5, .int (0), .int (0), .int (nI (0 + 0))])), (va_5, .inl (G.2.1 0, ky_cap 16 (0 + 0), .inl (f_5)))] H := hP
      have hD : va_D A [(q_3, .inr (6, [.ref va_5, .int (0), .int (0), .int (nI (0 + 0))])), (va_5, .inl (G.2.1 0, ky_cap 16 (0 + 0), .inl (f_5)))] := hD
      refine W.widen (k := 3) (n := 54) (ky_gp 2 16 (0 + 0)) (ky_gp2 20 16 (0 + 0)) ?_
      refine lv_aload_n hx hb dc_X8_text_42 rfl (lv_at hl 1 rfl) ?_
      have hI0 := ky_ro hX hna hS
      refine va_get (D := G.1) (ci := 4) (v := .long (v0.2)) (C := RX8) (T := TX8) (N := 2) hx hb hts ki_X8 hown hE.1 hI0 0 rfl rfl 1 (by decide) (hts _ kw_6_12) (fun _ h9 => h9) rfl dc_X8_text_43 ?_
      refine lv_lconst (v := 0) hx hb dc_X8_text_46 (by decide) ?_
      refine W.lcmp hx hb dc_X8_text_47 ?_
      refine lv_if_ne (tgt := 56) hx hb dc_X8_text_48 (by decide) (fun c_6 => absurd (c_2) c_6) (fun _ => ?_)
      obtain ⟨k_7, hR_7, hZ_7⟩ := ky_s4 hE
      refine va_ldcS hx hb hown hR_7 dc_X8_text_51 ?_
      refine lv_goto (tgt := 58) hx hb dc_X8_text_53 (by decide) ?_
      refine ky_cVh (As := [.ref k_7]) (wr := []) F (hE.at hfr hS) hfr (mt_J4_append_15ec4 l G q_3 va_5 (ky_cap 16 (0 + 0)) (0 + 0) f_5 0 k_7 1 (fun j => ([48] : List Int32).getD j 0) H.size (ky_m2.cap (Or.inl rfl)) hf_5 hZ_7 (by omega)) kv_X8_62 ⟨⟨rfl, rfl⟩, Nat.le_of_ble_eq_true rfl, Nat.le_of_ble_eq_true rfl⟩ rfl hl.1 rfl (Nat.le_of_ble_eq_true rfl) ⟨Nat.le_trans (ky_gp 3 (ky_cap 16 (0 + 0)) (0 + 0 + 1)) (Nat.le_of_ble_eq_true rfl), Nat.le_trans (ky_gp2 54 (ky_cap 16 (0 + 0)) (0 + 0 + 1)) (Nat.le_of_ble_eq_true rfl)⟩ (va_recv hE.1 hP (ci := 6) (q0 := 0) rfl rfl) trivial hP hD hS hA [0, 1] [] rfl rfl (by decide) (by decide) (by decide) dc_X8_text_58 ?_
      rintro v9 ⟨va_8, f_8⟩ H locs ⟨rfl, hf_8⟩ hP hD hS - hz hk9
      have hP : va_P G.1 kcl [(q_3, .inr (6, [.ref va_8, .int (0), .int (0), .int (nI (0 + 0 + 1))])), (va_8, .inl (G.2.1 0, ky_cap (ky_cap 16 (0 + 0)) (0 + 0 + 1), .inl (f_8)))] H := hP
      have hD : va_D A [(q_3, .inr (6, [.ref va_8, .int (0), .int (0), .int (nI (0 + 0 + 1))])), (va_8, .inl (G.2.1 0, ky_cap (ky_cap 16 (0 + 0)) (0 + 0 + 1), .inl (f_8)))] := hD
      refine W.widen (k := 4) (n := 88) (ky_gp 3 (ky_cap 16 (0 + 0)) (0 + 0 + 1)) (ky_gp2 54 (ky_cap 16 (0 + 0)) (0 + 0 + 1)) ?_
      refine ky_cVh (As := []) (wr := []) F (hE.at hfr hS) hfr (mt_J4_toString_0e30d l G q_3 va_8 (ky_cap (ky_cap 16 (0 + 0)) (0 + 0 + 1)) (0 + 0 + 1) f_8 0 H.size (ky_m2.le (ky_m2.cap (Or.inl rfl)) (by omega)).1 (ky_m2.le34 (ky_m2.cap (ky_m2.cap (Or.inl rfl)))) hf_8) kv_X8_70 ⟨⟨rfl, rfl⟩, Nat.le_of_ble_eq_true rfl, Nat.le_of_ble_eq_true rfl⟩ rfl hl.1 rfl (Nat.le_of_ble_eq_true rfl) ⟨Nat.le_of_ble_eq_true rfl, Nat.le_of_ble_eq_true rfl⟩ (va_recv hE.1 hP (ci := 6) (q0 := 0) rfl rfl) trivial hP hD hS hA [0, 1] [] rfl rfl (by decide) (by decide) (by decide) dc_X8_text_61 ?_
      rintro v9 ⟨z_9, y_9, g_9⟩ H locs ⟨rfl, hg_9⟩ hP hD hS - hz hk9
      have hP : va_P G.1 kcl [(q_3, .inr (6, [.ref va_8, .int (0), .int (0), .int (nI (0 + 0 + 1))])), (va_8, .inl (G.2.1 0, ky_cap (ky_cap 16 (0 + 0)) (0 + 0 + 1), .inl (f_8))), (z_9, .inr (7, [.ref y_9, .int (0), .int (0), .int (0)])), (y_9, .inl (G.2.1 0, 0 + 0 + 1, .inl (g_9)))] H := hP
      have hD : va_D A [(q_3, .inr (6, [.ref va_8, .int (0), .int (0), .int (nI (0 + 0 + 1))])), (va_8, .inl (G.2.1 0, ky_cap (ky_cap 16 (0 + 0)) (0 + 0 + 1), .inl (f_8))), (z_9, .inr (7, [.ref y_9, .int (0), .int (0), .int (0)])), (y_9, .inl (G.2.1 0, 0 + 0 + 1, .inl (g_9)))] := hD
      refine W.widen (k := 6) (n := 126) (by first | exact Nat.le_refl _ | omega) (by first | exact Nat.le_refl _ | omega) ?_
      have hP9 := hP.sub (ws' := [(z_9, .inr (7, [.ref y_9, .int (0), .int (0), .int (0)])), (y_9, .inl (G.2.1 0, 0 + 0 + 1, .inl (g_9)))]) [2, 3] rfl
      have hD9 := hD.sub (ws' := [(z_9, .inr (7, [.ref y_9, .int (0), .int (0), .int (0)])), (y_9, .inl (G.2.1 0, 0 + 0 + 1, .inl (g_9)))]) [2, 3] (by decide) rfl
      refine W.widen (k := 8) (n := 194) (Nat.le_of_ble_eq_true rfl) (Nat.le_of_ble_eq_true rfl) ?_
      exact W.aret (v := .ref z_9) hx hb hr (Or.inl ⟨_, rfl⟩) (Or.inr ⟨_, rfl⟩) (fun t ht hW => ⟨⟨_, (z_9, y_9, 0 + 0 + 1, g_9), rfl, ⟨rfl, (by show 0 + 0 + 1 = md_tl v0; unfold md_tl; rw [if_pos c_0, if_pos c_2]), hg_9⟩, by rw [ht]; exact hP9, hD9, trivial⟩, hS.F ht⟩) hS.2.2 dc_X8_text_64
    · skip
      refine lv_aload_n hx hb dc_X8_text_24 rfl (lv_at hl 1 rfl) ?_
      have hI0 := ky_ro hX hna hS
      refine ky_cV1 (As := []) F (hE.at hfr hS) (mt_X8_isEndless l G (b0) (v0) ) kv_X8_45 ⟨⟨rfl, rfl⟩, by decide, by decide⟩ rfl hl.1 rfl (Nat.le_of_ble_eq_true rfl) ⟨Nat.le_of_ble_eq_true rfl, Nat.le_of_ble_eq_true rfl⟩ (va_recv hE.1 hI0 (ci := 4) (q0 := 0) rfl rfl) hI0 dc_X8_text_25 ?_
      refine lv_if_eq (tgt := 65) hx hb dc_X8_text_28 (by decide) (fun c_3 => ?_) (fun c_3 => ?_)
      · skip
        refine lv_aload_n hx hb dc_X8_text_65 rfl (lv_at hl 1 rfl) ?_
        have hI0 := ky_ro hX hna hS
        refine ky_cV1 (As := []) F (hE.at hfr hS) (mt_X8_many l G (b0) (v0) ) kv_X8_39 ⟨⟨rfl, rfl⟩, by decide, by decide⟩ rfl hl.1 rfl (Nat.le_of_ble_eq_true rfl) ⟨Nat.le_of_ble_eq_true rfl, Nat.le_of_ble_eq_true rfl⟩ (va_recv hE.1 hI0 (ci := 4) (q0 := 0) rfl rfl) hI0 dc_X8_text_66 ?_
        obtain ⟨v9, hv1, hv2, ev⟩ := ky_many_pos c_2
        rw [show ((fn_X8_many v0) : Int64) = lN v9 from ev]
        refine lv_lstore_n (lv' := [(2, .long (lN v9)), (1, .ref k_1), (0, .ref b0)]) hx hb dc_X8_text_69 rfl hl (by decide) rfl (fun ls hl => ?_)
        refine lv_aload_n hx hb dc_X8_text_70 rfl (lv_at hl 2 rfl) ?_
        have hI0 := ky_ro hX hna hS
        refine ky_cV1 (As := []) F (hE.at hfr hS) (mt_X8_power l G (b0) (v0) ) kv_X8_36 ⟨⟨rfl, rfl⟩, by decide, by decide⟩ rfl hl.1 rfl (Nat.le_of_ble_eq_true rfl) ⟨Nat.le_of_ble_eq_true rfl, Nat.le_of_ble_eq_true rfl⟩ (va_recv hE.1 hI0 (ci := 4) (q0 := 0) rfl rfl) hI0 dc_X8_text_71 ?_
        refine lv_istore (lv' := [(4, .int (fn_X8_power v0)), (2, .long (lN v9)), (1, .ref k_1), (0, .ref b0)]) hx hb dc_X8_text_74 hl (by decide) rfl (fun ls hl => ?_)
        refine W.widen (k := 0) (n := 0) (by first | exact Nat.le_refl _ | omega | exact Nat.zero_le _) (by first | exact Nat.le_refl _ | omega | exact Nat.zero_le _) ?_
        exact ml_X8_text_L761 (b0 := b0) (v0 := v0) F hE hA hfr   (v9) k_1 0 (fun j => ([] : List Int32).getD j 0) v9 (fn_X8_power v0) hZ_1 (by decide) (Nat.le_refl _) hv1 hv2 (md_R0 ev hv2) (by unfold md_tl; rw [if_pos c_0, if_neg c_2, if_pos c_3]) _ _ (hP.sub (ws' := []) [] rfl) (hD.sub (ws' := []) [] (by decide) rfl) hS  _ (lv_sub hl [2, 1, 0] rfl)
      · skip
        refine va_new (ci := 6) (fs := [.null, .int (0), .int (0), .int (0)]) (C := RJ4) (T := TJ4) (N := 4) hx hb hts ki_J4 tyJ4 tyJ4_ok hown (hts _ kw_7_51) (hts _ kw_1_45) (hts _ kw_1_4) hE.1 hP hD hS hA rfl (fun j hj => by rcases (show j = 0 ∨ j = 1 ∨ j = 2 ∨ j = 3 by omega) with rfl | rfl | rfl | rfl <;> rfl) (Nat.le_of_ble_eq_true rfl) (Nat.le_of_ble_eq_true rfl) dc_X8_text_31 (fun q_4 H hP hD hS => ?_)
        have hP : va_P G.1 kcl [(q_4, .inr (6, [.null, .int (0), .int (0), .int (0)]))] H := hP
        have hD : va_D A [(q_4, .inr (6, [.null, .int (0), .int (0), .int (0)]))] := hD
        refine W.widen (k := 1) (n := 4) (Nat.le_refl _) (Nat.le_refl _) ?_
        refine lv_dup hx hb dc_X8_text_34 rfl ?_
        refine ky_cIh (As := []) (wr := []) F (hE.at hfr hS) hfr (mt_J4_init_da8c8 l G q_4 H.size ) kI_X8_61 ⟨⟨rfl, rfl⟩, Nat.le_of_ble_eq_true rfl, Nat.le_of_ble_eq_true rfl⟩ rfl hl.1 rfl (Nat.le_of_ble_eq_true rfl) ⟨Nat.le_of_ble_eq_true rfl, Nat.le_of_ble_eq_true rfl⟩ trivial hP hD hS hA [0] [] rfl rfl (by decide) (by decide) (by decide) dc_X8_text_35 ?_
        rintro v9 va_5 H locs rfl hP hD hS - hz hk9
        have hP : va_P G.1 kcl [(q_4, .inr (6, [.ref va_5, .int (0), .int (0), .int (nI (0))])), (va_5, .inl (G.2.1 0, 16, .inl (fun _ => 0)))] H := hP
        have hD : va_D A [(q_4, .inr (6, [.ref va_5, .int (0), .int (0), .int (nI (0))])), (va_5, .inl (G.2.1 0, 16, .inl (fun _ => 0)))] := hD
        refine W.widen (k := 2) (n := 20) (by first | exact Nat.le_refl _ | omega) (by first | exact Nat.le_refl _ | omega) ?_
        refine lv_aload_n hx hb dc_X8_text_38 rfl (lv_at hl 0 rfl) ?_
        refine ky_cVh (As := [.ref k_1]) (wr := []) F (hE.at hfr hS) hfr (mt_J4_append_15ec4 l G q_4 va_5 16 0 (fun _ => 0) 0 k_1 0 (fun j => ([] : List Int32).getD j 0) H.size (Or.inl rfl) ky_fit0 hZ_1 (by omega)) kv_X8_62 ⟨⟨rfl, rfl⟩, Nat.le_of_ble_eq_true rfl, Nat.le_of_ble_eq_true rfl⟩ rfl hl.1 rfl (Nat.le_of_ble_eq_true rfl) ⟨Nat.le_trans (ky_gp 2 16 (0 + 0)) (Nat.le_of_ble_eq_true rfl), Nat.le_trans (ky_gp2 20 16 (0 + 0)) (Nat.le_of_ble_eq_true rfl)⟩ (va_recv hE.1 hP (ci := 6) (q0 := 0) rfl rfl) trivial hP hD hS hA [0, 1] [] rfl rfl (by decide) (by decide) (by decide) dc_X8_text_39 ?_
        rintro v9 ⟨va_6, f_6⟩ H locs ⟨rfl, hf_6⟩ hP hD hS - hz hk9
        have hP : va_P G.1 kcl [(q_4, .inr (6, [.ref va_6, .int (0), .int (0), .int (nI (0 + 0))])), (va_6, .inl (G.2.1 0, ky_cap 16 (0 + 0), .inl (f_6)))] H := hP
        have hD : va_D A [(q_4, .inr (6, [.ref va_6, .int (0), .int (0), .int (nI (0 + 0))])), (va_6, .inl (G.2.1 0, ky_cap 16 (0 + 0), .inl (f_6)))] := hD
        refine W.widen (k := 3) (n := 54) (ky_gp 2 16 (0 + 0)) (ky_gp2 20 16 (0 + 0)) ?_
        refine lv_aload_n hx hb dc_X8_text_42 rfl (lv_at hl 1 rfl) ?_
        have hI0 := ky_ro hX hna hS
        refine va_get (D := G.1) (ci := 4) (v := .long (v0.2)) (C := RX8) (T := TX8) (N := 2) hx hb hts ki_X8 hown hE.1 hI0 0 rfl rfl 1 (by decide) (hts _ kw_6_12) (fun _ h9 => h9) rfl dc_X8_text_43 ?_
        refine lv_lconst (v := 0) hx hb dc_X8_text_46 (by decide) ?_
        refine W.lcmp hx hb dc_X8_text_47 ?_
        refine lv_if_ne (tgt := 56) hx hb dc_X8_text_48 (by decide) (fun _ => ?_) (fun c_7 => absurd c_7 (c_2))
        obtain ⟨k_8, hR_8, hZ_8⟩ := ky_s5 hE
        refine va_ldcS hx hb hown hR_8 dc_X8_text_56 ?_
        refine ky_cVh (As := [.ref k_8]) (wr := []) F (hE.at hfr hS) hfr (mt_J4_append_15ec4 l G q_4 va_6 (ky_cap 16 (0 + 0)) (0 + 0) f_6 0 k_8 1 (fun j => ([69] : List Int32).getD j 0) H.size (ky_m2.cap (Or.inl rfl)) hf_6 hZ_8 (by omega)) kv_X8_62 ⟨⟨rfl, rfl⟩, Nat.le_of_ble_eq_true rfl, Nat.le_of_ble_eq_true rfl⟩ rfl hl.1 rfl (Nat.le_of_ble_eq_true rfl) ⟨Nat.le_trans (ky_gp 3 (ky_cap 16 (0 + 0)) (0 + 0 + 1)) (Nat.le_of_ble_eq_true rfl), Nat.le_trans (ky_gp2 54 (ky_cap 16 (0 + 0)) (0 + 0 + 1)) (Nat.le_of_ble_eq_true rfl)⟩ (va_recv hE.1 hP (ci := 6) (q0 := 0) rfl rfl) trivial hP hD hS hA [0, 1] [] rfl rfl (by decide) (by decide) (by decide) dc_X8_text_58 ?_
        rintro v9 ⟨va_9, f_9⟩ H locs ⟨rfl, hf_9⟩ hP hD hS - hz hk9
        have hP : va_P G.1 kcl [(q_4, .inr (6, [.ref va_9, .int (0), .int (0), .int (nI (0 + 0 + 1))])), (va_9, .inl (G.2.1 0, ky_cap (ky_cap 16 (0 + 0)) (0 + 0 + 1), .inl (f_9)))] H := hP
        have hD : va_D A [(q_4, .inr (6, [.ref va_9, .int (0), .int (0), .int (nI (0 + 0 + 1))])), (va_9, .inl (G.2.1 0, ky_cap (ky_cap 16 (0 + 0)) (0 + 0 + 1), .inl (f_9)))] := hD
        refine W.widen (k := 4) (n := 88) (ky_gp 3 (ky_cap 16 (0 + 0)) (0 + 0 + 1)) (ky_gp2 54 (ky_cap 16 (0 + 0)) (0 + 0 + 1)) ?_
        refine ky_cVh (As := []) (wr := []) F (hE.at hfr hS) hfr (mt_J4_toString_0e30d l G q_4 va_9 (ky_cap (ky_cap 16 (0 + 0)) (0 + 0 + 1)) (0 + 0 + 1) f_9 0 H.size (ky_m2.le (ky_m2.cap (Or.inl rfl)) (by omega)).1 (ky_m2.le34 (ky_m2.cap (ky_m2.cap (Or.inl rfl)))) hf_9) kv_X8_70 ⟨⟨rfl, rfl⟩, Nat.le_of_ble_eq_true rfl, Nat.le_of_ble_eq_true rfl⟩ rfl hl.1 rfl (Nat.le_of_ble_eq_true rfl) ⟨Nat.le_of_ble_eq_true rfl, Nat.le_of_ble_eq_true rfl⟩ (va_recv hE.1 hP (ci := 6) (q0 := 0) rfl rfl) trivial hP hD hS hA [0, 1] [] rfl rfl (by decide) (by decide) (by decide) dc_X8_text_61 ?_
        rintro v9 ⟨z_10, y_10, g_10⟩ H locs ⟨rfl, hg_10⟩ hP hD hS - hz hk9
        have hP : va_P G.1 kcl [(q_4, .inr (6, [.ref va_9, .int (0), .int (0), .int (nI (0 + 0 + 1))])), (va_9, .inl (G.2.1 0, ky_cap (ky_cap 16 (0 + 0)) (0 + 0 + 1), .inl (f_9))), (z_10, .inr (7, [.ref y_10, .int (0), .int (0), .int (0)])), (y_10, .inl (G.2.1 0, 0 + 0 + 1, .inl (g_10)))] H := hP
        have hD : va_D A [(q_4, .inr (6, [.ref va_9, .int (0), .int (0), .int (nI (0 + 0 + 1))])), (va_9, .inl (G.2.1 0, ky_cap (ky_cap 16 (0 + 0)) (0 + 0 + 1), .inl (f_9))), (z_10, .inr (7, [.ref y_10, .int (0), .int (0), .int (0)])), (y_10, .inl (G.2.1 0, 0 + 0 + 1, .inl (g_10)))] := hD
        refine W.widen (k := 6) (n := 126) (by first | exact Nat.le_refl _ | omega) (by first | exact Nat.le_refl _ | omega) ?_
        have hP9 := hP.sub (ws' := [(z_10, .inr (7, [.ref y_10, .int (0), .int (0), .int (0)])), (y_10, .inl (G.2.1 0, 0 + 0 + 1, .inl (g_10)))]) [2, 3] rfl
        have hD9 := hD.sub (ws' := [(z_10, .inr (7, [.ref y_10, .int (0), .int (0), .int (0)])), (y_10, .inl (G.2.1 0, 0 + 0 + 1, .inl (g_10)))]) [2, 3] (by decide) rfl
        refine W.widen (k := 8) (n := 194) (Nat.le_of_ble_eq_true rfl) (Nat.le_of_ble_eq_true rfl) ?_
        exact W.aret (v := .ref z_10) hx hb hr (Or.inl ⟨_, rfl⟩) (Or.inr ⟨_, rfl⟩) (fun t ht hW => ⟨⟨_, (z_10, y_10, 0 + 0 + 1, g_10), rfl, ⟨rfl, (by show 0 + 0 + 1 = md_tl v0; unfold md_tl; rw [if_pos c_0, if_neg c_2, if_neg c_3]), hg_10⟩, by rw [ht]; exact hP9, hD9, trivial⟩, hS.F ht⟩) hS.2.2 dc_X8_text_64
