set_option linter.constructorNameAsVariable false in
set_option maxHeartbeats 4000000 in
set_option maxRecDepth 100000 in
theorem ml_X9_digest_L249 {p : Program} {l : Launch} {e : Env} {s : State} {m : MethodId} {args : Array Value} {below : List Frame} {meth : Method} {c : Code} {G : ky_G} {A : Nat → Prop} {mo : Nat} {cs : Nat} {N : Nat → Prop} {w : ky_MV} {f : Nat → Option Nat} (F : ky_F p s m meth c my_X9_digest.cls prog_10_method_80_code 6 (some .long) args) (hE : ky_E G s) (hA : ∀ q, s.heap.size ≤ q → A q) (hfr : ∀ q, A q → ky_fr G q) (hAe : A = va_A (ky_WM G mo cs w f) s.heap.size) (hIT0 : ky_IT G mo cs N f w.2.2.2.2 s.heap)  : ∀ (n9 : Nat) (k9 : Nat) (sm : Int64) (h9 : k9 ≤ 6) (hn9 : 6 - k9 < n9) (H : Heap) (locs : List Loc), va_P G.1 kcl [(mo, .inr (5, [.int (w.1), .ref cs, .int (w.2.1), .int (w.2.2.1), .int (w.2.2.2.1)])), (cs, .inl (G.2.1 3, 6, .inr (.inr (.inr (.inr (f))))))] H → va_D A [(mo, .inr (5, [.int (w.1), .ref cs, .int (w.2.1), .int (w.2.2.1), .int (w.2.2.2.1)])), (cs, .inl (G.2.1 3, 6, .inr (.inr (.inr (.inr (f))))))] → va_S A s.heap H locs →  ∀ ls : Array Slot, lv_has ls 6 [(0, .ref mo), (1, .long (sm)), (3, .int (nI (k9)))] → W p l e { frames := 8, cells := 488, slots := 10184, locals := 201 } s m args below meth c H locs (472) (9796) (MQ below (ky_Q (S := Int32) G A (fun v _ => ∃ z : Int64, v = some (.long z)) (fun u => ky_WM G mo cs (u, w.2) f) (fun _ H => ky_IT G mo cs N f w.2.2.2.2 H)) args s (488) (10184) A) (F0 m 249 ls []) := by
  obtain ⟨hx, hb, hml, hown, hr, hlocks, hts⟩ := id F
  intro n9
  induction n9 with
  | zero => intro k9 sm h9 hn9; exact False.elim (by omega)
  | succ n9 ih =>
      intro k9 sm h9 hn9 H locs hP hD hS  ls hl
      refine lv_iload_n hx hb dc_X9_digest_249 rfl (lv_at hl 2 rfl) ?_
      refine lv_bipush (v := 6) hx hb dc_X9_digest_250 (by decide) ?_
      refine lv_icmp_ge (tgt := 301) hx hb dc_X9_digest_252 (by decide) (fun c_0 => ?_) (fun c_0 => ?_)
      · skip
        refine lv_aload_n hx hb dc_X9_digest_301 rfl (lv_at hl 0 rfl) ?_
        refine lv_iconst (v := 0) hx hb dc_X9_digest_302 (by decide) ?_
        refine va_put (D := G.1) (ci := 5) (v := .int ((0 : Int32))) (ty := .int) (C := RX9) (T := TX9) (N := 5) hx hb hts ki_X9 tyX9 tyX9_ok nmX9 hown hE.1 hP hD hS 0 rfl rfl 0 (by decide) (hts _ kw_6_19) (fun _ h9 => h9) rfl (by decide +kernel) rfl rfl (Nat.le_of_ble_eq_true rfl) dc_X9_digest_303 (fun H locs hP hD hS => ?_)
        have hP : va_P G.1 kcl [(mo, .inr (5, [.int ((0 : Int32)), .ref cs, .int (w.2.1), .int (w.2.2.1), .int (w.2.2.2.1)])), (cs, .inl (G.2.1 3, 6, .inr (.inr (.inr (.inr (f))))))] H := hP
        have hD : va_D A [(mo, .inr (5, [.int ((0 : Int32)), .ref cs, .int (w.2.1), .int (w.2.2.1), .int (w.2.2.2.1)])), (cs, .inl (G.2.1 3, 6, .inr (.inr (.inr (.inr (f))))))] := hD
        refine lv_lload_n hx hb dc_X9_digest_306 rfl (lv_at hl 1 rfl) ?_
        refine lv_aload_n hx hb dc_X9_digest_307 rfl (lv_at hl 0 rfl) ?_
        refine lv_iconst (v := 1) hx hb dc_X9_digest_308 (by decide) ?_
        have hIT := hIT0.ro hAe hS
        refine ky_cVh (As := [.int ((1 : Int32))]) (wr := []) F (hE.at hfr hS) hfr (mt_X9_end l G mo cs N ((0 : Int32), w.2.1, w.2.2.1, w.2.2.2.1, w.2.2.2.2) f (1 : Int32) H.size ) kv_X9_251 ⟨⟨rfl, rfl⟩, Nat.le_of_ble_eq_true rfl, Nat.le_of_ble_eq_true rfl⟩ rfl hl.1 rfl (Nat.le_of_ble_eq_true rfl) ⟨by show (_ : Nat) ≤ 488; omega, by show (_ : Nat) ≤ 10184; omega⟩ (va_recv hE.1 hP (ci := 5) (q0 := 0) rfl rfl) hIT hP hD hS hA [0, 1] [] rfl rfl (by decide) (by decide) (by decide) dc_X9_digest_309 ?_
        rintro v9 ⟨z_1, y_1, n_1, g_1⟩ H locs ⟨rfl, hn_1, hg_1⟩ hP hD hS - hz hk9
        have hP : va_P G.1 kcl [(mo, .inr (5, [.int ((0 : Int32)), .ref cs, .int (w.2.1), .int (w.2.2.1), .int (w.2.2.2.1)])), (cs, .inl (G.2.1 3, 6, .inr (.inr (.inr (.inr (f)))))), (z_1, .inr (7, [.ref y_1, .int (0), .int (0), .int (0)])), (y_1, .inl (G.2.1 0, n_1, .inl (g_1)))] H := hP
        have hD : va_D A [(mo, .inr (5, [.int ((0 : Int32)), .ref cs, .int (w.2.1), .int (w.2.2.1), .int (w.2.2.2.1)])), (cs, .inl (G.2.1 3, 6, .inr (.inr (.inr (.inr (f)))))), (z_1, .inr (7, [.ref y_1, .int (0), .int (0), .int (0)])), (y_1, .inl (G.2.1 0, n_1, .inl (g_1)))] := hD
        refine W.widen (k := 480) (n := 9990) (by first | exact Nat.le_refl _ | omega) (by first | exact Nat.le_refl _ | omega) ?_
        refine ky_cSh (As := [.long (sm), .ref z_1]) (wr := [(mo, .inr (5, [.int ((0 : Int32)), .ref cs, .int (w.2.1), .int (w.2.2.1), .int (w.2.2.2.1)])), (cs, .inl (G.2.1 3, 6, .inr (.inr (.inr (.inr (f))))))]) F (hE.at hfr hS) hfr (mt_X9_add_ l G z_1 y_1 n_1 g_1 sm H.size ) ks_X9_273 ⟨⟨rfl, rfl⟩, Nat.le_of_ble_eq_true rfl, Nat.le_of_ble_eq_true rfl⟩ rfl hl.1 rfl (Nat.le_of_ble_eq_true rfl) ⟨by show (_ : Nat) ≤ 488; omega, by show (_ : Nat) ≤ 10184; omega⟩ trivial hP hD hS hA [2, 3] [0, 1] rfl rfl (by decide) (by decide) (by decide) dc_X9_digest_312 ?_
        rintro v9 u9 H locs ⟨r_2, rfl⟩ hP hD hS - hz hk9
        have hP : va_P G.1 kcl [(mo, .inr (5, [.int ((0 : Int32)), .ref cs, .int (w.2.1), .int (w.2.2.1), .int (w.2.2.2.1)])), (cs, .inl (G.2.1 3, 6, .inr (.inr (.inr (.inr (f)))))), (z_1, .inr (7, [.ref y_1, .int (0), .int (0), .int (0)])), (y_1, .inl (G.2.1 0, n_1, .inl (g_1)))] H := hP
        have hD : va_D A [(mo, .inr (5, [.int ((0 : Int32)), .ref cs, .int (w.2.1), .int (w.2.2.1), .int (w.2.2.2.1)])), (cs, .inl (G.2.1 3, 6, .inr (.inr (.inr (.inr (f)))))), (z_1, .inr (7, [.ref y_1, .int (0), .int (0), .int (0)])), (y_1, .inl (G.2.1 0, n_1, .inl (g_1)))] := hD
        refine W.widen (k := 480) (n := 9990) (by first | exact Nat.le_refl _ | omega) (by first | exact Nat.le_refl _ | omega) ?_
        have hP := hP.sub (ws' := [(mo, .inr (5, [.int ((0 : Int32)), .ref cs, .int (w.2.1), .int (w.2.2.1), .int (w.2.2.2.1)])), (cs, .inl (G.2.1 3, 6, .inr (.inr (.inr (.inr (f))))))]) [0, 1] rfl
        have hD := hD.sub (ws' := [(mo, .inr (5, [.int ((0 : Int32)), .ref cs, .int (w.2.1), .int (w.2.2.1), .int (w.2.2.2.1)])), (cs, .inl (G.2.1 3, 6, .inr (.inr (.inr (.inr (f))))))]) [0, 1] (by decide) rfl
        refine lv_aload_n hx hb dc_X9_digest_315 rfl (lv_at hl 0 rfl) ?_
        refine lv_iconst (v := 0) hx hb dc_X9_digest_316 (by decide) ?_
        have hIT := hIT0.ro hAe hS
        refine ky_cVh (As := [.int ((0 : Int32))]) (wr := []) F (hE.at hfr hS) hfr (mt_X9_end l G mo cs N ((0 : Int32), w.2.1, w.2.2.1, w.2.2.2.1, w.2.2.2.2) f (0 : Int32) H.size ) kv_X9_251 ⟨⟨rfl, rfl⟩, Nat.le_of_ble_eq_true rfl, Nat.le_of_ble_eq_true rfl⟩ rfl hl.1 rfl (Nat.le_of_ble_eq_true rfl) ⟨by show (_ : Nat) ≤ 488; omega, by show (_ : Nat) ≤ 10184; omega⟩ (va_recv hE.1 hP (ci := 5) (q0 := 0) rfl rfl) hIT hP hD hS hA [0, 1] [] rfl rfl (by decide) (by decide) (by decide) dc_X9_digest_317 ?_
        rintro v9 ⟨z_3, y_3, n_3, g_3⟩ H locs ⟨rfl, hn_3, hg_3⟩ hP hD hS - hz hk9
        have hP : va_P G.1 kcl [(mo, .inr (5, [.int ((0 : Int32)), .ref cs, .int (w.2.1), .int (w.2.2.1), .int (w.2.2.2.1)])), (cs, .inl (G.2.1 3, 6, .inr (.inr (.inr (.inr (f)))))), (z_3, .inr (7, [.ref y_3, .int (0), .int (0), .int (0)])), (y_3, .inl (G.2.1 0, n_3, .inl (g_3)))] H := hP
        have hD : va_D A [(mo, .inr (5, [.int ((0 : Int32)), .ref cs, .int (w.2.1), .int (w.2.2.1), .int (w.2.2.2.1)])), (cs, .inl (G.2.1 3, 6, .inr (.inr (.inr (.inr (f)))))), (z_3, .inr (7, [.ref y_3, .int (0), .int (0), .int (0)])), (y_3, .inl (G.2.1 0, n_3, .inl (g_3)))] := hD
        refine W.widen (k := 488) (n := 10184) (by first | exact Nat.le_refl _ | omega) (by first | exact Nat.le_refl _ | omega) ?_
        refine ky_cSh (As := [.long (r_2), .ref z_3]) (wr := [(mo, .inr (5, [.int ((0 : Int32)), .ref cs, .int (w.2.1), .int (w.2.2.1), .int (w.2.2.2.1)])), (cs, .inl (G.2.1 3, 6, .inr (.inr (.inr (.inr (f))))))]) F (hE.at hfr hS) hfr (mt_X9_add_ l G z_3 y_3 n_3 g_3 r_2 H.size ) ks_X9_273 ⟨⟨rfl, rfl⟩, Nat.le_of_ble_eq_true rfl, Nat.le_of_ble_eq_true rfl⟩ rfl hl.1 rfl (Nat.le_of_ble_eq_true rfl) ⟨by show (_ : Nat) ≤ 488; omega, by show (_ : Nat) ≤ 10184; omega⟩ trivial hP hD hS hA [2, 3] [0, 1] rfl rfl (by decide) (by decide) (by decide) dc_X9_digest_320 ?_
        rintro v9 u9 H locs ⟨r_4, rfl⟩ hP hD hS - hz hk9
        have hP : va_P G.1 kcl [(mo, .inr (5, [.int ((0 : Int32)), .ref cs, .int (w.2.1), .int (w.2.2.1), .int (w.2.2.2.1)])), (cs, .inl (G.2.1 3, 6, .inr (.inr (.inr (.inr (f)))))), (z_3, .inr (7, [.ref y_3, .int (0), .int (0), .int (0)])), (y_3, .inl (G.2.1 0, n_3, .inl (g_3)))] H := hP
        have hD : va_D A [(mo, .inr (5, [.int ((0 : Int32)), .ref cs, .int (w.2.1), .int (w.2.2.1), .int (w.2.2.2.1)])), (cs, .inl (G.2.1 3, 6, .inr (.inr (.inr (.inr (f)))))), (z_3, .inr (7, [.ref y_3, .int (0), .int (0), .int (0)])), (y_3, .inl (G.2.1 0, n_3, .inl (g_3)))] := hD
        refine W.widen (k := 488) (n := 10184) (by first | exact Nat.le_refl _ | omega) (by first | exact Nat.le_refl _ | omega) ?_
        have hP := hP.sub (ws' := [(mo, .inr (5, [.int ((0 : Int32)), .ref cs, .int (w.2.1), .int (w.2.2.1), .int (w.2.2.2.1)])), (cs, .inl (G.2.1 3, 6, .inr (.inr (.inr (.inr (f))))))]) [0, 1] rfl
        have hD := hD.sub (ws' := [(mo, .inr (5, [.int ((0 : Int32)), .ref cs, .int (w.2.1), .int (w.2.2.1), .int (w.2.2.2.1)])), (cs, .inl (G.2.1 3, 6, .inr (.inr (.inr (.inr (f))))))]) [0, 1] (by decide) rfl
        refine lv_lconst (v := 1) hx hb dc_X9_digest_323 (by decide) ?_
        refine ky_cS0 (As := [.long (r_4), .long ((1 : Int64))]) F (mt_X9_add l (r_4) ((1 : Int64))) ks_X9_268 ⟨⟨rfl, rfl⟩, by decide, by decide⟩ rfl hl.1 rfl (Nat.le_of_ble_eq_true rfl) ⟨by show (_ : Nat) ≤ 488; omega, by show (_ : Nat) ≤ 10184; omega⟩ dc_X9_digest_324 ?_
        generalize ((fn_X9_add (r_4) ((1 : Int64))) : Int64) = j_5
        have hP9 := hP.sub (ws' := [(mo, .inr (5, [.int ((0 : Int32)), .ref cs, .int (w.2.1), .int (w.2.2.1), .int (w.2.2.2.1)])), (cs, .inl (G.2.1 3, 6, .inr (.inr (.inr (.inr (f))))))]) [0, 1] rfl
        have hD9 := hD.sub (ws' := [(mo, .inr (5, [.int ((0 : Int32)), .ref cs, .int (w.2.1), .int (w.2.2.1), .int (w.2.2.2.1)])), (cs, .inl (G.2.1 3, 6, .inr (.inr (.inr (.inr (f))))))]) [0, 1] (by decide) rfl
        refine W.widen (k := 488) (n := 10184) (by omega) (by omega) ?_
        exact W.lret (v := j_5) hx hb hr (fun t ht hW => ⟨⟨_, (0 : Int32), rfl, ⟨_, rfl⟩, by rw [ht]; exact hP9, hD9, by rw [ht]; exact hIT0.ro hAe hS⟩, hS.F ht⟩) hS.2.2 dc_X9_digest_327
      · skip
        have h9k9 : ¬ 6 ≤ k9 := fun z => c_0 ((nI_leI (a := 6) (b := k9) (by omega) (by omega)).mpr z)
        refine lv_iconst (v := 0) hx hb dc_X9_digest_255 (by decide) ?_
        refine lv_istore (lv' := [(4, .int ((0 : Int32))), (0, .ref mo), (1, .long (sm)), (3, .int (nI (k9)))]) hx hb dc_X9_digest_256 hl (by decide) rfl (fun ls hl => ?_)
        refine lv_iload hx hb dc_X9_digest_258 (lv_at hl 0 rfl) ?_
        refine lv_bipush (v := 6) hx hb dc_X9_digest_260 (by decide) ?_
        refine lv_icmp_ge (tgt := 295) hx hb dc_X9_digest_262 (by decide) (fun c_1 => absurd c_1 (by decide)) (fun _ => ?_)
        refine lv_lload_n hx hb dc_X9_digest_265 rfl (lv_at hl 2 rfl) ?_
        refine lv_aload_n hx hb dc_X9_digest_266 rfl (lv_at hl 1 rfl) ?_
        refine lv_iload_n hx hb dc_X9_digest_267 rfl (lv_at hl 3 rfl) ?_
        refine lv_iload hx hb dc_X9_digest_268 (lv_at hl 0 rfl) ?_
        have hIT := hIT0.ro hAe hS
        refine ky_cVh (As := [.int (nI (k9)), .int ((0 : Int32))]) (wr := []) F (hE.at hfr hS) hfr (mt_X9_comparedNowW l G mo cs N w f (nI (k9)) (0 : Int32) H.size (vp_in_nI (by omega) (by omega)) (vp_in_iff.mpr (by decide))) kv_X9_232 ⟨⟨rfl, rfl⟩, Nat.le_of_ble_eq_true rfl, Nat.le_of_ble_eq_true rfl⟩ rfl hl.1 rfl (Nat.le_of_ble_eq_true rfl) ⟨by show (_ : Nat) ≤ 488; omega, by show (_ : Nat) ≤ 10184; omega⟩ (va_recv hE.1 hP (ci := 5) (q0 := 0) rfl rfl) hIT hP hD hS hA [0, 1] [] rfl rfl (by decide) (by decide) (by decide) dc_X9_digest_270 ?_
        rintro v9 u9 H locs ⟨r_2, rfl⟩ hP hD hS - hz hk9
        have hP : va_P G.1 kcl [(mo, .inr (5, [.int (w.1), .ref cs, .int (w.2.1), .int (w.2.2.1), .int (w.2.2.2.1)])), (cs, .inl (G.2.1 3, 6, .inr (.inr (.inr (.inr (f))))))] H := hP
        have hD : va_D A [(mo, .inr (5, [.int (w.1), .ref cs, .int (w.2.1), .int (w.2.2.1), .int (w.2.2.2.1)])), (cs, .inl (G.2.1 3, 6, .inr (.inr (.inr (.inr (f))))))] := hD
        refine W.widen (k := 472) (n := 9796) (by first | exact Nat.le_refl _ | omega) (by first | exact Nat.le_refl _ | omega) ?_
        refine lv_i2l (v := (r_2).toInt64) hx hb dc_X9_digest_273 rfl ?_
        refine ky_cS0 (As := [.long (sm), .long ((r_2).toInt64)]) F (mt_X9_add l (sm) ((r_2).toInt64)) ks_X9_268 ⟨⟨rfl, rfl⟩, by decide, by decide⟩ rfl hl.1 rfl (Nat.le_of_ble_eq_true rfl) ⟨by show (_ : Nat) ≤ 488; omega, by show (_ : Nat) ≤ 10184; omega⟩ dc_X9_digest_274 ?_
        refine lv_aload_n hx hb dc_X9_digest_277 rfl (lv_at hl 1 rfl) ?_
        refine lv_iload_n hx hb dc_X9_digest_278 rfl (lv_at hl 3 rfl) ?_
        refine lv_iload hx hb dc_X9_digest_279 (lv_at hl 0 rfl) ?_
        have hIT := hIT0.ro hAe hS
        refine ky_cVh (As := [.int (nI (k9)), .int ((0 : Int32))]) (wr := []) F (hE.at hfr hS) hfr (mt_X9_apartNowW l G mo cs N w f (nI (k9)) (0 : Int32) H.size (vp_in_nI (by omega) (by omega)) (vp_in_iff.mpr (by decide))) kv_X9_241 ⟨⟨rfl, rfl⟩, Nat.le_of_ble_eq_true rfl, Nat.le_of_ble_eq_true rfl⟩ rfl hl.1 rfl (Nat.le_of_ble_eq_true rfl) ⟨by show (_ : Nat) ≤ 488; omega, by show (_ : Nat) ≤ 10184; omega⟩ (va_recv hE.1 hP (ci := 5) (q0 := 0) rfl rfl) hIT hP hD hS hA [0, 1] [] rfl rfl (by decide) (by decide) (by decide) dc_X9_digest_281 ?_
        rintro v9 u9 H locs ⟨r_3, rfl⟩ hP hD hS - hz hk9
        have hP : va_P G.1 kcl [(mo, .inr (5, [.int (w.1), .ref cs, .int (w.2.1), .int (w.2.2.1), .int (w.2.2.2.1)])), (cs, .inl (G.2.1 3, 6, .inr (.inr (.inr (.inr (f))))))] H := hP
        have hD : va_D A [(mo, .inr (5, [.int (w.1), .ref cs, .int (w.2.1), .int (w.2.2.1), .int (w.2.2.2.1)])), (cs, .inl (G.2.1 3, 6, .inr (.inr (.inr (.inr (f))))))] := hD
        refine W.widen (k := 472) (n := 9796) (by first | exact Nat.le_refl _ | omega) (by first | exact Nat.le_refl _ | omega) ?_
        refine lv_i2l (v := (r_3).toInt64) hx hb dc_X9_digest_284 rfl ?_
        refine ky_cS0 (As := [.long (fn_X9_add (sm) ((r_2).toInt64)), .long ((r_3).toInt64)]) F (mt_X9_add l (fn_X9_add (sm) ((r_2).toInt64)) ((r_3).toInt64)) ks_X9_268 ⟨⟨rfl, rfl⟩, by decide, by decide⟩ rfl hl.1 rfl (Nat.le_of_ble_eq_true rfl) ⟨by show (_ : Nat) ≤ 488; omega, by show (_ : Nat) ≤ 10184; omega⟩ dc_X9_digest_285 ?_
        generalize ((fn_X9_add (fn_X9_add (sm) ((r_2).toInt64)) ((r_3).toInt64)) : Int64) = j_4
        refine lv_lstore_n (lv' := [(1, .long (j_4)), (4, .int ((0 : Int32))), (0, .ref mo), (3, .int (nI (k9)))]) hx hb dc_X9_digest_288 rfl hl (by decide) rfl (fun ls hl => ?_)
        refine lv_iinc (v := (1 : Int32)) (lv' := [(4, .int ((1 : Int32))), (1, .long (j_4)), (0, .ref mo), (3, .int (nI (k9)))]) hx hb dc_X9_digest_289 hl (k := 1) rfl (by decide) (by decide) rfl (fun ls hl => ?_)
        refine lv_goto (tgt := 258) hx hb dc_X9_digest_292 (by decide) ?_
        refine lv_iload hx hb dc_X9_digest_258 (lv_at hl 0 rfl) ?_
        refine lv_bipush (v := 6) hx hb dc_X9_digest_260 (by decide) ?_
        refine lv_icmp_ge (tgt := 295) hx hb dc_X9_digest_262 (by decide) (fun c_5 => absurd c_5 (by decide)) (fun _ => ?_)
        refine lv_lload_n hx hb dc_X9_digest_265 rfl (lv_at hl 1 rfl) ?_
        refine lv_aload_n hx hb dc_X9_digest_266 rfl (lv_at hl 2 rfl) ?_
        refine lv_iload_n hx hb dc_X9_digest_267 rfl (lv_at hl 3 rfl) ?_
        refine lv_iload hx hb dc_X9_digest_268 (lv_at hl 0 rfl) ?_
        have hIT := hIT0.ro hAe hS
        refine ky_cVh (As := [.int (nI (k9)), .int ((1 : Int32))]) (wr := []) F (hE.at hfr hS) hfr (mt_X9_comparedNowW l G mo cs N w f (nI (k9)) (1 : Int32) H.size (vp_in_nI (by omega) (by omega)) (vp_in_iff.mpr (by decide))) kv_X9_232 ⟨⟨rfl, rfl⟩, Nat.le_of_ble_eq_true rfl, Nat.le_of_ble_eq_true rfl⟩ rfl hl.1 rfl (Nat.le_of_ble_eq_true rfl) ⟨by show (_ : Nat) ≤ 488; omega, by show (_ : Nat) ≤ 10184; omega⟩ (va_recv hE.1 hP (ci := 5) (q0 := 0) rfl rfl) hIT hP hD hS hA [0, 1] [] rfl rfl (by decide) (by decide) (by decide) dc_X9_digest_270 ?_
        rintro v9 u9 H locs ⟨r_6, rfl⟩ hP hD hS - hz hk9
        have hP : va_P G.1 kcl [(mo, .inr (5, [.int (w.1), .ref cs, .int (w.2.1), .int (w.2.2.1), .int (w.2.2.2.1)])), (cs, .inl (G.2.1 3, 6, .inr (.inr (.inr (.inr (f))))))] H := hP
        have hD : va_D A [(mo, .inr (5, [.int (w.1), .ref cs, .int (w.2.1), .int (w.2.2.1), .int (w.2.2.2.1)])), (cs, .inl (G.2.1 3, 6, .inr (.inr (.inr (.inr (f))))))] := hD
        refine W.widen (k := 472) (n := 9796) (by first | exact Nat.le_refl _ | omega) (by first | exact Nat.le_refl _ | omega) ?_
        refine lv_i2l (v := (r_6).toInt64) hx hb dc_X9_digest_273 rfl ?_
        refine ky_cS0 (As := [.long (j_4), .long ((r_6).toInt64)]) F (mt_X9_add l (j_4) ((r_6).toInt64)) ks_X9_268 ⟨⟨rfl, rfl⟩, by decide, by decide⟩ rfl hl.1 rfl (Nat.le_of_ble_eq_true rfl) ⟨by show (_ : Nat) ≤ 488; omega, by show (_ : Nat) ≤ 10184; omega⟩ dc_X9_digest_274 ?_
        refine lv_aload_n hx hb dc_X9_digest_277 rfl (lv_at hl 2 rfl) ?_
        refine lv_iload_n hx hb dc_X9_digest_278 rfl (lv_at hl 3 rfl) ?_
        refine lv_iload hx hb dc_X9_digest_279 (lv_at hl 0 rfl) ?_
        have hIT := hIT0.ro hAe hS
        refine ky_cVh (As := [.int (nI (k9)), .int ((1 : Int32))]) (wr := []) F (hE.at hfr hS) hfr (mt_X9_apartNowW l G mo cs N w f (nI (k9)) (1 : Int32) H.size (vp_in_nI (by omega) (by omega)) (vp_in_iff.mpr (by decide))) kv_X9_241 ⟨⟨rfl, rfl⟩, Nat.le_of_ble_eq_true rfl, Nat.le_of_ble_eq_true rfl⟩ rfl hl.1 rfl (Nat.le_of_ble_eq_true rfl) ⟨by show (_ : Nat) ≤ 488; omega, by show (_ : Nat) ≤ 10184; omega⟩ (va_recv hE.1 hP (ci := 5) (q0 := 0) rfl rfl) hIT hP hD hS hA [0, 1] [] rfl rfl (by decide) (by decide) (by decide) dc_X9_digest_281 ?_
        rintro v9 u9 H locs ⟨r_7, rfl⟩ hP hD hS - hz hk9
        have hP : va_P G.1 kcl [(mo, .inr (5, [.int (w.1), .ref cs, .int (w.2.1), .int (w.2.2.1), .int (w.2.2.2.1)])), (cs, .inl (G.2.1 3, 6, .inr (.inr (.inr (.inr (f))))))] H := hP
        have hD : va_D A [(mo, .inr (5, [.int (w.1), .ref cs, .int (w.2.1), .int (w.2.2.1), .int (w.2.2.2.1)])), (cs, .inl (G.2.1 3, 6, .inr (.inr (.inr (.inr (f))))))] := hD
        refine W.widen (k := 472) (n := 9796) (by first | exact Nat.le_refl _ | omega) (by first | exact Nat.le_refl _ | omega) ?_
        refine lv_i2l (v := (r_7).toInt64) hx hb dc_X9_digest_284 rfl ?_
        refine ky_cS0 (As := [.long (fn_X9_add (j_4) ((r_6).toInt64)), .long ((r_7).toInt64)]) F (mt_X9_add l (fn_X9_add (j_4) ((r_6).toInt64)) ((r_7).toInt64)) ks_X9_268 ⟨⟨rfl, rfl⟩, by decide, by decide⟩ rfl hl.1 rfl (Nat.le_of_ble_eq_true rfl) ⟨by show (_ : Nat) ≤ 488; omega, by show (_ : Nat) ≤ 10184; omega⟩ dc_X9_digest_285 ?_
        generalize ((fn_X9_add (fn_X9_add (j_4) ((r_6).toInt64)) ((r_7).toInt64)) : Int64) = j_8
        refine lv_lstore_n (lv' := [(1, .long (j_8)), (4, .int ((1 : Int32))), (0, .ref mo), (3, .int (nI (k9)))]) hx hb dc_X9_digest_288 rfl hl (by decide) rfl (fun ls hl => ?_)
        refine lv_iinc (v := (2 : Int32)) (lv' := [(4, .int ((2 : Int32))), (1, .long (j_8)), (0, .ref mo), (3, .int (nI (k9)))]) hx hb dc_X9_digest_289 hl (k := 1) rfl (by decide) (by decide) rfl (fun ls hl => ?_)
        refine lv_goto (tgt := 258) hx hb dc_X9_digest_292 (by decide) ?_
        refine lv_iload hx hb dc_X9_digest_258 (lv_at hl 0 rfl) ?_
        refine lv_bipush (v := 6) hx hb dc_X9_digest_260 (by decide) ?_
        refine lv_icmp_ge (tgt := 295) hx hb dc_X9_digest_262 (by decide) (fun c_9 => absurd c_9 (by decide)) (fun _ => ?_)
        refine lv_lload_n hx hb dc_X9_digest_265 rfl (lv_at hl 1 rfl) ?_
        refine lv_aload_n hx hb dc_X9_digest_266 rfl (lv_at hl 2 rfl) ?_
        refine lv_iload_n hx hb dc_X9_digest_267 rfl (lv_at hl 3 rfl) ?_
        refine lv_iload hx hb dc_X9_digest_268 (lv_at hl 0 rfl) ?_
        have hIT := hIT0.ro hAe hS
        refine ky_cVh (As := [.int (nI (k9)), .int ((2 : Int32))]) (wr := []) F (hE.at hfr hS) hfr (mt_X9_comparedNowW l G mo cs N w f (nI (k9)) (2 : Int32) H.size (vp_in_nI (by omega) (by omega)) (vp_in_iff.mpr (by decide))) kv_X9_232 ⟨⟨rfl, rfl⟩, Nat.le_of_ble_eq_true rfl, Nat.le_of_ble_eq_true rfl⟩ rfl hl.1 rfl (Nat.le_of_ble_eq_true rfl) ⟨by show (_ : Nat) ≤ 488; omega, by show (_ : Nat) ≤ 10184; omega⟩ (va_recv hE.1 hP (ci := 5) (q0 := 0) rfl rfl) hIT hP hD hS hA [0, 1] [] rfl rfl (by decide) (by decide) (by decide) dc_X9_digest_270 ?_
        rintro v9 u9 H locs ⟨r_10, rfl⟩ hP hD hS - hz hk9
        have hP : va_P G.1 kcl [(mo, .inr (5, [.int (w.1), .ref cs, .int (w.2.1), .int (w.2.2.1), .int (w.2.2.2.1)])), (cs, .inl (G.2.1 3, 6, .inr (.inr (.inr (.inr (f))))))] H := hP
        have hD : va_D A [(mo, .inr (5, [.int (w.1), .ref cs, .int (w.2.1), .int (w.2.2.1), .int (w.2.2.2.1)])), (cs, .inl (G.2.1 3, 6, .inr (.inr (.inr (.inr (f))))))] := hD
        refine W.widen (k := 472) (n := 9796) (by first | exact Nat.le_refl _ | omega) (by first | exact Nat.le_refl _ | omega) ?_
        refine lv_i2l (v := (r_10).toInt64) hx hb dc_X9_digest_273 rfl ?_
        refine ky_cS0 (As := [.long (j_8), .long ((r_10).toInt64)]) F (mt_X9_add l (j_8) ((r_10).toInt64)) ks_X9_268 ⟨⟨rfl, rfl⟩, by decide, by decide⟩ rfl hl.1 rfl (Nat.le_of_ble_eq_true rfl) ⟨by show (_ : Nat) ≤ 488; omega, by show (_ : Nat) ≤ 10184; omega⟩ dc_X9_digest_274 ?_
        refine lv_aload_n hx hb dc_X9_digest_277 rfl (lv_at hl 2 rfl) ?_
        refine lv_iload_n hx hb dc_X9_digest_278 rfl (lv_at hl 3 rfl) ?_
        refine lv_iload hx hb dc_X9_digest_279 (lv_at hl 0 rfl) ?_
        have hIT := hIT0.ro hAe hS
        refine ky_cVh (As := [.int (nI (k9)), .int ((2 : Int32))]) (wr := []) F (hE.at hfr hS) hfr (mt_X9_apartNowW l G mo cs N w f (nI (k9)) (2 : Int32) H.size (vp_in_nI (by omega) (by omega)) (vp_in_iff.mpr (by decide))) kv_X9_241 ⟨⟨rfl, rfl⟩, Nat.le_of_ble_eq_true rfl, Nat.le_of_ble_eq_true rfl⟩ rfl hl.1 rfl (Nat.le_of_ble_eq_true rfl) ⟨by show (_ : Nat) ≤ 488; omega, by show (_ : Nat) ≤ 10184; omega⟩ (va_recv hE.1 hP (ci := 5) (q0 := 0) rfl rfl) hIT hP hD hS hA [0, 1] [] rfl rfl (by decide) (by decide) (by decide) dc_X9_digest_281 ?_
        rintro v9 u9 H locs ⟨r_11, rfl⟩ hP hD hS - hz hk9
        have hP : va_P G.1 kcl [(mo, .inr (5, [.int (w.1), .ref cs, .int (w.2.1), .int (w.2.2.1), .int (w.2.2.2.1)])), (cs, .inl (G.2.1 3, 6, .inr (.inr (.inr (.inr (f))))))] H := hP
        have hD : va_D A [(mo, .inr (5, [.int (w.1), .ref cs, .int (w.2.1), .int (w.2.2.1), .int (w.2.2.2.1)])), (cs, .inl (G.2.1 3, 6, .inr (.inr (.inr (.inr (f))))))] := hD
        refine W.widen (k := 472) (n := 9796) (by first | exact Nat.le_refl _ | omega) (by first | exact Nat.le_refl _ | omega) ?_
        refine lv_i2l (v := (r_11).toInt64) hx hb dc_X9_digest_284 rfl ?_
        refine ky_cS0 (As := [.long (fn_X9_add (j_8) ((r_10).toInt64)), .long ((r_11).toInt64)]) F (mt_X9_add l (fn_X9_add (j_8) ((r_10).toInt64)) ((r_11).toInt64)) ks_X9_268 ⟨⟨rfl, rfl⟩, by decide, by decide⟩ rfl hl.1 rfl (Nat.le_of_ble_eq_true rfl) ⟨by show (_ : Nat) ≤ 488; omega, by show (_ : Nat) ≤ 10184; omega⟩ dc_X9_digest_285 ?_
        generalize ((fn_X9_add (fn_X9_add (j_8) ((r_10).toInt64)) ((r_11).toInt64)) : Int64) = j_12
        refine lv_lstore_n (lv' := [(1, .long (j_12)), (4, .int ((2 : Int32))), (0, .ref mo), (3, .int (nI (k9)))]) hx hb dc_X9_digest_288 rfl hl (by decide) rfl (fun ls hl => ?_)
        refine lv_iinc (v := (3 : Int32)) (lv' := [(4, .int ((3 : Int32))), (1, .long (j_12)), (0, .ref mo), (3, .int (nI (k9)))]) hx hb dc_X9_digest_289 hl (k := 1) rfl (by decide) (by decide) rfl (fun ls hl => ?_)
        refine lv_goto (tgt := 258) hx hb dc_X9_digest_292 (by decide) ?_
        refine lv_iload hx hb dc_X9_digest_258 (lv_at hl 0 rfl) ?_
        refine lv_bipush (v := 6) hx hb dc_X9_digest_260 (by decide) ?_
        refine lv_icmp_ge (tgt := 295) hx hb dc_X9_digest_262 (by decide) (fun c_13 => absurd c_13 (by decide)) (fun _ => ?_)
        refine lv_lload_n hx hb dc_X9_digest_265 rfl (lv_at hl 1 rfl) ?_
        refine lv_aload_n hx hb dc_X9_digest_266 rfl (lv_at hl 2 rfl) ?_
        refine lv_iload_n hx hb dc_X9_digest_267 rfl (lv_at hl 3 rfl) ?_
        refine lv_iload hx hb dc_X9_digest_268 (lv_at hl 0 rfl) ?_
        have hIT := hIT0.ro hAe hS
        refine ky_cVh (As := [.int (nI (k9)), .int ((3 : Int32))]) (wr := []) F (hE.at hfr hS) hfr (mt_X9_comparedNowW l G mo cs N w f (nI (k9)) (3 : Int32) H.size (vp_in_nI (by omega) (by omega)) (vp_in_iff.mpr (by decide))) kv_X9_232 ⟨⟨rfl, rfl⟩, Nat.le_of_ble_eq_true rfl, Nat.le_of_ble_eq_true rfl⟩ rfl hl.1 rfl (Nat.le_of_ble_eq_true rfl) ⟨by show (_ : Nat) ≤ 488; omega, by show (_ : Nat) ≤ 10184; omega⟩ (va_recv hE.1 hP (ci := 5) (q0 := 0) rfl rfl) hIT hP hD hS hA [0, 1] [] rfl rfl (by decide) (by decide) (by decide) dc_X9_digest_270 ?_
        rintro v9 u9 H locs ⟨r_14, rfl⟩ hP hD hS - hz hk9
        have hP : va_P G.1 kcl [(mo, .inr (5, [.int (w.1), .ref cs, .int (w.2.1), .int (w.2.2.1), .int (w.2.2.2.1)])), (cs, .inl (G.2.1 3, 6, .inr (.inr (.inr (.inr (f))))))] H := hP
        have hD : va_D A [(mo, .inr (5, [.int (w.1), .ref cs, .int (w.2.1), .int (w.2.2.1), .int (w.2.2.2.1)])), (cs, .inl (G.2.1 3, 6, .inr (.inr (.inr (.inr (f))))))] := hD
        refine W.widen (k := 472) (n := 9796) (by first | exact Nat.le_refl _ | omega) (by first | exact Nat.le_refl _ | omega) ?_
        refine lv_i2l (v := (r_14).toInt64) hx hb dc_X9_digest_273 rfl ?_
        refine ky_cS0 (As := [.long (j_12), .long ((r_14).toInt64)]) F (mt_X9_add l (j_12) ((r_14).toInt64)) ks_X9_268 ⟨⟨rfl, rfl⟩, by decide, by decide⟩ rfl hl.1 rfl (Nat.le_of_ble_eq_true rfl) ⟨by show (_ : Nat) ≤ 488; omega, by show (_ : Nat) ≤ 10184; omega⟩ dc_X9_digest_274 ?_
        refine lv_aload_n hx hb dc_X9_digest_277 rfl (lv_at hl 2 rfl) ?_
        refine lv_iload_n hx hb dc_X9_digest_278 rfl (lv_at hl 3 rfl) ?_
        refine lv_iload hx hb dc_X9_digest_279 (lv_at hl 0 rfl) ?_
        have hIT := hIT0.ro hAe hS
        refine ky_cVh (As := [.int (nI (k9)), .int ((3 : Int32))]) (wr := []) F (hE.at hfr hS) hfr (mt_X9_apartNowW l G mo cs N w f (nI (k9)) (3 : Int32) H.size (vp_in_nI (by omega) (by omega)) (vp_in_iff.mpr (by decide))) kv_X9_241 ⟨⟨rfl, rfl⟩, Nat.le_of_ble_eq_true rfl, Nat.le_of_ble_eq_true rfl⟩ rfl hl.1 rfl (Nat.le_of_ble_eq_true rfl) ⟨by show (_ : Nat) ≤ 488; omega, by show (_ : Nat) ≤ 10184; omega⟩ (va_recv hE.1 hP (ci := 5) (q0 := 0) rfl rfl) hIT hP hD hS hA [0, 1] [] rfl rfl (by decide) (by decide) (by decide) dc_X9_digest_281 ?_
        rintro v9 u9 H locs ⟨r_15, rfl⟩ hP hD hS - hz hk9
        have hP : va_P G.1 kcl [(mo, .inr (5, [.int (w.1), .ref cs, .int (w.2.1), .int (w.2.2.1), .int (w.2.2.2.1)])), (cs, .inl (G.2.1 3, 6, .inr (.inr (.inr (.inr (f))))))] H := hP
        have hD : va_D A [(mo, .inr (5, [.int (w.1), .ref cs, .int (w.2.1), .int (w.2.2.1), .int (w.2.2.2.1)])), (cs, .inl (G.2.1 3, 6, .inr (.inr (.inr (.inr (f))))))] := hD
        refine W.widen (k := 472) (n := 9796) (by first | exact Nat.le_refl _ | omega) (by first | exact Nat.le_refl _ | omega) ?_
        refine lv_i2l (v := (r_15).toInt64) hx hb dc_X9_digest_284 rfl ?_
        refine ky_cS0 (As := [.long (fn_X9_add (j_12) ((r_14).toInt64)), .long ((r_15).toInt64)]) F (mt_X9_add l (fn_X9_add (j_12) ((r_14).toInt64)) ((r_15).toInt64)) ks_X9_268 ⟨⟨rfl, rfl⟩, by decide, by decide⟩ rfl hl.1 rfl (Nat.le_of_ble_eq_true rfl) ⟨by show (_ : Nat) ≤ 488; omega, by show (_ : Nat) ≤ 10184; omega⟩ dc_X9_digest_285 ?_
        generalize ((fn_X9_add (fn_X9_add (j_12) ((r_14).toInt64)) ((r_15).toInt64)) : Int64) = j_16
        refine lv_lstore_n (lv' := [(1, .long (j_16)), (4, .int ((3 : Int32))), (0, .ref mo), (3, .int (nI (k9)))]) hx hb dc_X9_digest_288 rfl hl (by decide) rfl (fun ls hl => ?_)
        refine lv_iinc (v := (4 : Int32)) (lv' := [(4, .int ((4 : Int32))), (1, .long (j_16)), (0, .ref mo), (3, .int (nI (k9)))]) hx hb dc_X9_digest_289 hl (k := 1) rfl (by decide) (by decide) rfl (fun ls hl => ?_)
        refine lv_goto (tgt := 258) hx hb dc_X9_digest_292 (by decide) ?_
        refine lv_iload hx hb dc_X9_digest_258 (lv_at hl 0 rfl) ?_
        refine lv_bipush (v := 6) hx hb dc_X9_digest_260 (by decide) ?_
        refine lv_icmp_ge (tgt := 295) hx hb dc_X9_digest_262 (by decide) (fun c_17 => absurd c_17 (by decide)) (fun _ => ?_)
        refine lv_lload_n hx hb dc_X9_digest_265 rfl (lv_at hl 1 rfl) ?_
        refine lv_aload_n hx hb dc_X9_digest_266 rfl (lv_at hl 2 rfl) ?_
        refine lv_iload_n hx hb dc_X9_digest_267 rfl (lv_at hl 3 rfl) ?_
        refine lv_iload hx hb dc_X9_digest_268 (lv_at hl 0 rfl) ?_
        have hIT := hIT0.ro hAe hS
        refine ky_cVh (As := [.int (nI (k9)), .int ((4 : Int32))]) (wr := []) F (hE.at hfr hS) hfr (mt_X9_comparedNowW l G mo cs N w f (nI (k9)) (4 : Int32) H.size (vp_in_nI (by omega) (by omega)) (vp_in_iff.mpr (by decide))) kv_X9_232 ⟨⟨rfl, rfl⟩, Nat.le_of_ble_eq_true rfl, Nat.le_of_ble_eq_true rfl⟩ rfl hl.1 rfl (Nat.le_of_ble_eq_true rfl) ⟨by show (_ : Nat) ≤ 488; omega, by show (_ : Nat) ≤ 10184; omega⟩ (va_recv hE.1 hP (ci := 5) (q0 := 0) rfl rfl) hIT hP hD hS hA [0, 1] [] rfl rfl (by decide) (by decide) (by decide) dc_X9_digest_270 ?_
        rintro v9 u9 H locs ⟨r_18, rfl⟩ hP hD hS - hz hk9
        have hP : va_P G.1 kcl [(mo, .inr (5, [.int (w.1), .ref cs, .int (w.2.1), .int (w.2.2.1), .int (w.2.2.2.1)])), (cs, .inl (G.2.1 3, 6, .inr (.inr (.inr (.inr (f))))))] H := hP
        have hD : va_D A [(mo, .inr (5, [.int (w.1), .ref cs, .int (w.2.1), .int (w.2.2.1), .int (w.2.2.2.1)])), (cs, .inl (G.2.1 3, 6, .inr (.inr (.inr (.inr (f))))))] := hD
        refine W.widen (k := 472) (n := 9796) (by first | exact Nat.le_refl _ | omega) (by first | exact Nat.le_refl _ | omega) ?_
        refine lv_i2l (v := (r_18).toInt64) hx hb dc_X9_digest_273 rfl ?_
        refine ky_cS0 (As := [.long (j_16), .long ((r_18).toInt64)]) F (mt_X9_add l (j_16) ((r_18).toInt64)) ks_X9_268 ⟨⟨rfl, rfl⟩, by decide, by decide⟩ rfl hl.1 rfl (Nat.le_of_ble_eq_true rfl) ⟨by show (_ : Nat) ≤ 488; omega, by show (_ : Nat) ≤ 10184; omega⟩ dc_X9_digest_274 ?_
        refine lv_aload_n hx hb dc_X9_digest_277 rfl (lv_at hl 2 rfl) ?_
        refine lv_iload_n hx hb dc_X9_digest_278 rfl (lv_at hl 3 rfl) ?_
        refine lv_iload hx hb dc_X9_digest_279 (lv_at hl 0 rfl) ?_
        have hIT := hIT0.ro hAe hS
        refine ky_cVh (As := [.int (nI (k9)), .int ((4 : Int32))]) (wr := []) F (hE.at hfr hS) hfr (mt_X9_apartNowW l G mo cs N w f (nI (k9)) (4 : Int32) H.size (vp_in_nI (by omega) (by omega)) (vp_in_iff.mpr (by decide))) kv_X9_241 ⟨⟨rfl, rfl⟩, Nat.le_of_ble_eq_true rfl, Nat.le_of_ble_eq_true rfl⟩ rfl hl.1 rfl (Nat.le_of_ble_eq_true rfl) ⟨by show (_ : Nat) ≤ 488; omega, by show (_ : Nat) ≤ 10184; omega⟩ (va_recv hE.1 hP (ci := 5) (q0 := 0) rfl rfl) hIT hP hD hS hA [0, 1] [] rfl rfl (by decide) (by decide) (by decide) dc_X9_digest_281 ?_
        rintro v9 u9 H locs ⟨r_19, rfl⟩ hP hD hS - hz hk9
        have hP : va_P G.1 kcl [(mo, .inr (5, [.int (w.1), .ref cs, .int (w.2.1), .int (w.2.2.1), .int (w.2.2.2.1)])), (cs, .inl (G.2.1 3, 6, .inr (.inr (.inr (.inr (f))))))] H := hP
        have hD : va_D A [(mo, .inr (5, [.int (w.1), .ref cs, .int (w.2.1), .int (w.2.2.1), .int (w.2.2.2.1)])), (cs, .inl (G.2.1 3, 6, .inr (.inr (.inr (.inr (f))))))] := hD
        refine W.widen (k := 472) (n := 9796) (by first | exact Nat.le_refl _ | omega) (by first | exact Nat.le_refl _ | omega) ?_
        refine lv_i2l (v := (r_19).toInt64) hx hb dc_X9_digest_284 rfl ?_
        refine ky_cS0 (As := [.long (fn_X9_add (j_16) ((r_18).toInt64)), .long ((r_19).toInt64)]) F (mt_X9_add l (fn_X9_add (j_16) ((r_18).toInt64)) ((r_19).toInt64)) ks_X9_268 ⟨⟨rfl, rfl⟩, by decide, by decide⟩ rfl hl.1 rfl (Nat.le_of_ble_eq_true rfl) ⟨by show (_ : Nat) ≤ 488; omega, by show (_ : Nat) ≤ 10184; omega⟩ dc_X9_digest_285 ?_
        generalize ((fn_X9_add (fn_X9_add (j_16) ((r_18).toInt64)) ((r_19).toInt64)) : Int64) = j_20
        refine lv_lstore_n (lv' := [(1, .long (j_20)), (4, .int ((4 : Int32))), (0, .ref mo), (3, .int (nI (k9)))]) hx hb dc_X9_digest_288 rfl hl (by decide) rfl (fun ls hl => ?_)
        refine lv_iinc (v := (5 : Int32)) (lv' := [(4, .int ((5 : Int32))), (1, .long (j_20)), (0, .ref mo), (3, .int (nI (k9)))]) hx hb dc_X9_digest_289 hl (k := 1) rfl (by decide) (by decide) rfl (fun ls hl => ?_)
        refine lv_goto (tgt := 258) hx hb dc_X9_digest_292 (by decide) ?_
        refine lv_iload hx hb dc_X9_digest_258 (lv_at hl 0 rfl) ?_
        refine lv_bipush (v := 6) hx hb dc_X9_digest_260 (by decide) ?_
        refine lv_icmp_ge (tgt := 295) hx hb dc_X9_digest_262 (by decide) (fun c_21 => absurd c_21 (by decide)) (fun _ => ?_)
        refine lv_lload_n hx hb dc_X9_digest_265 rfl (lv_at hl 1 rfl) ?_
        refine lv_aload_n hx hb dc_X9_digest_266 rfl (lv_at hl 2 rfl) ?_
        refine lv_iload_n hx hb dc_X9_digest_267 rfl (lv_at hl 3 rfl) ?_
        refine lv_iload hx hb dc_X9_digest_268 (lv_at hl 0 rfl) ?_
        have hIT := hIT0.ro hAe hS
        refine ky_cVh (As := [.int (nI (k9)), .int ((5 : Int32))]) (wr := []) F (hE.at hfr hS) hfr (mt_X9_comparedNowW l G mo cs N w f (nI (k9)) (5 : Int32) H.size (vp_in_nI (by omega) (by omega)) (vp_in_iff.mpr (by decide))) kv_X9_232 ⟨⟨rfl, rfl⟩, Nat.le_of_ble_eq_true rfl, Nat.le_of_ble_eq_true rfl⟩ rfl hl.1 rfl (Nat.le_of_ble_eq_true rfl) ⟨by show (_ : Nat) ≤ 488; omega, by show (_ : Nat) ≤ 10184; omega⟩ (va_recv hE.1 hP (ci := 5) (q0 := 0) rfl rfl) hIT hP hD hS hA [0, 1] [] rfl rfl (by decide) (by decide) (by decide) dc_X9_digest_270 ?_
        rintro v9 u9 H locs ⟨r_22, rfl⟩ hP hD hS - hz hk9
        have hP : va_P G.1 kcl [(mo, .inr (5, [.int (w.1), .ref cs, .int (w.2.1), .int (w.2.2.1), .int (w.2.2.2.1)])), (cs, .inl (G.2.1 3, 6, .inr (.inr (.inr (.inr (f))))))] H := hP
        have hD : va_D A [(mo, .inr (5, [.int (w.1), .ref cs, .int (w.2.1), .int (w.2.2.1), .int (w.2.2.2.1)])), (cs, .inl (G.2.1 3, 6, .inr (.inr (.inr (.inr (f))))))] := hD
        refine W.widen (k := 472) (n := 9796) (by first | exact Nat.le_refl _ | omega) (by first | exact Nat.le_refl _ | omega) ?_
        refine lv_i2l (v := (r_22).toInt64) hx hb dc_X9_digest_273 rfl ?_
        refine ky_cS0 (As := [.long (j_20), .long ((r_22).toInt64)]) F (mt_X9_add l (j_20) ((r_22).toInt64)) ks_X9_268 ⟨⟨rfl, rfl⟩, by decide, by decide⟩ rfl hl.1 rfl (Nat.le_of_ble_eq_true rfl) ⟨by show (_ : Nat) ≤ 488; omega, by show (_ : Nat) ≤ 10184; omega⟩ dc_X9_digest_274 ?_
        refine lv_aload_n hx hb dc_X9_digest_277 rfl (lv_at hl 2 rfl) ?_
        refine lv_iload_n hx hb dc_X9_digest_278 rfl (lv_at hl 3 rfl) ?_
        refine lv_iload hx hb dc_X9_digest_279 (lv_at hl 0 rfl) ?_
        have hIT := hIT0.ro hAe hS
        refine ky_cVh (As := [.int (nI (k9)), .int ((5 : Int32))]) (wr := []) F (hE.at hfr hS) hfr (mt_X9_apartNowW l G mo cs N w f (nI (k9)) (5 : Int32) H.size (vp_in_nI (by omega) (by omega)) (vp_in_iff.mpr (by decide))) kv_X9_241 ⟨⟨rfl, rfl⟩, Nat.le_of_ble_eq_true rfl, Nat.le_of_ble_eq_true rfl⟩ rfl hl.1 rfl (Nat.le_of_ble_eq_true rfl) ⟨by show (_ : Nat) ≤ 488; omega, by show (_ : Nat) ≤ 10184; omega⟩ (va_recv hE.1 hP (ci := 5) (q0 := 0) rfl rfl) hIT hP hD hS hA [0, 1] [] rfl rfl (by decide) (by decide) (by decide) dc_X9_digest_281 ?_
        rintro v9 u9 H locs ⟨r_23, rfl⟩ hP hD hS - hz hk9
        have hP : va_P G.1 kcl [(mo, .inr (5, [.int (w.1), .ref cs, .int (w.2.1), .int (w.2.2.1), .int (w.2.2.2.1)])), (cs, .inl (G.2.1 3, 6, .inr (.inr (.inr (.inr (f))))))] H := hP
        have hD : va_D A [(mo, .inr (5, [.int (w.1), .ref cs, .int (w.2.1), .int (w.2.2.1), .int (w.2.2.2.1)])), (cs, .inl (G.2.1 3, 6, .inr (.inr (.inr (.inr (f))))))] := hD
        refine W.widen (k := 472) (n := 9796) (by first | exact Nat.le_refl _ | omega) (by first | exact Nat.le_refl _ | omega) ?_
        refine lv_i2l (v := (r_23).toInt64) hx hb dc_X9_digest_284 rfl ?_
        refine ky_cS0 (As := [.long (fn_X9_add (j_20) ((r_22).toInt64)), .long ((r_23).toInt64)]) F (mt_X9_add l (fn_X9_add (j_20) ((r_22).toInt64)) ((r_23).toInt64)) ks_X9_268 ⟨⟨rfl, rfl⟩, by decide, by decide⟩ rfl hl.1 rfl (Nat.le_of_ble_eq_true rfl) ⟨by show (_ : Nat) ≤ 488; omega, by show (_ : Nat) ≤ 10184; omega⟩ dc_X9_digest_285 ?_
        generalize ((fn_X9_add (fn_X9_add (j_20) ((r_22).toInt64)) ((r_23).toInt64)) : Int64) = j_24
        refine lv_lstore_n (lv' := [(1, .long (j_24)), (4, .int ((5 : Int32))), (0, .ref mo), (3, .int (nI (k9)))]) hx hb dc_X9_digest_288 rfl hl (by decide) rfl (fun ls hl => ?_)
        refine lv_iinc (v := (6 : Int32)) (lv' := [(4, .int ((6 : Int32))), (1, .long (j_24)), (0, .ref mo), (3, .int (nI (k9)))]) hx hb dc_X9_digest_289 hl (k := 1) rfl (by decide) (by decide) rfl (fun ls hl => ?_)
        refine lv_goto (tgt := 258) hx hb dc_X9_digest_292 (by decide) ?_
        refine lv_iload hx hb dc_X9_digest_258 (lv_at hl 0 rfl) ?_
        refine lv_bipush (v := 6) hx hb dc_X9_digest_260 (by decide) ?_
        refine lv_icmp_ge (tgt := 295) hx hb dc_X9_digest_262 (by decide) (fun _ => ?_) (fun c_25 => absurd c_25 (by decide))
        refine lv_iinc (v := nI (k9 + 1)) (lv' := [(3, .int (nI (k9 + 1))), (4, .int ((6 : Int32))), (1, .long (j_24)), (0, .ref mo)]) hx hb dc_X9_digest_295 hl (k := 3) rfl (nI_1 _) (by decide) rfl (fun ls hl => ?_)
        refine lv_goto (tgt := 249) hx hb dc_X9_digest_298 (by decide) ?_
        refine W.widen (k := 472) (n := 9796) (by first | exact Nat.le_refl _ | omega | exact Nat.zero_le _) (by first | exact Nat.le_refl _ | omega | exact Nat.zero_le _) ?_
        exact ih (k9 + 1) j_24 (by omega) (by omega) _ _ (hP.sub (ws' := [(mo, .inr (5, [.int (w.1), .ref cs, .int (w.2.1), .int (w.2.2.1), .int (w.2.2.2.1)])), (cs, .inl (G.2.1 3, 6, .inr (.inr (.inr (.inr (f))))))]) [0, 1] rfl) (hD.sub (ws' := [(mo, .inr (5, [.int (w.1), .ref cs, .int (w.2.1), .int (w.2.2.1), .int (w.2.2.2.1)])), (cs, .inl (G.2.1 3, 6, .inr (.inr (.inr (.inr (f))))))]) [0, 1] (by decide) rfl) hS  _ (lv_sub hl [3, 2, 0] rfl)
set_option linter.constructorNameAsVariable false in
set_option maxHeartbeats 4000000 in
set_option maxRecDepth 100000 in
theorem ml_X9_digest_L30 {p : Program} {l : Launch} {e : Env} {s : State} {m : MethodId} {args : Array Value} {below : List Frame} {meth : Method} {c : Code} {G : ky_G} {A : Nat → Prop} {mo : Nat} {cs : Nat} {N : Nat → Prop} {w : ky_MV} {f : Nat → Option Nat} (F : ky_F p s m meth c my_X9_digest.cls prog_10_method_80_code 6 (some .long) args) (hE : ky_E G s) (hA : ∀ q, s.heap.size ≤ q → A q) (hfr : ∀ q, A q → ky_fr G q) (hAe : A = va_A (ky_WM G mo cs w f) s.heap.size) (hIT0 : ky_IT G mo cs N f w.2.2.2.2 s.heap)  : ∀ (n9 : Nat) (k9 : Nat) (sm : Int64) (h9 : k9 ≤ 6) (hn9 : 6 - k9 < n9) (H : Heap) (locs : List Loc), va_P G.1 kcl [(mo, .inr (5, [.int (w.1), .ref cs, .int (w.2.1), .int (w.2.2.1), .int (w.2.2.2.1)])), (cs, .inl (G.2.1 3, 6, .inr (.inr (.inr (.inr (f))))))] H → va_D A [(mo, .inr (5, [.int (w.1), .ref cs, .int (w.2.1), .int (w.2.2.1), .int (w.2.2.2.1)])), (cs, .inl (G.2.1 3, 6, .inr (.inr (.inr (.inr (f))))))] → va_S A s.heap H locs →  ∀ ls : Array Slot, lv_has ls 6 [(0, .ref mo), (1, .long (sm)), (3, .int (nI (k9)))] → W p l e { frames := 8, cells := 488, slots := 10184, locals := 201 } s m args below meth c H locs (4 + 78 * k9) (16 + 1630 * k9) (MQ below (ky_Q (S := Int32) G A (fun v _ => ∃ z : Int64, v = some (.long z)) (fun u => ky_WM G mo cs (u, w.2) f) (fun _ H => ky_IT G mo cs N f w.2.2.2.2 H)) args s (488) (10184) A) (F0 m 30 ls []) := by
  obtain ⟨hx, hb, hml, hown, hr, hlocks, hts⟩ := id F
  intro n9
  induction n9 with
  | zero => intro k9 sm h9 hn9; exact False.elim (by omega)
  | succ n9 ih =>
      intro k9 sm h9 hn9 H locs hP hD hS  ls hl
      refine lv_iload_n hx hb dc_X9_digest_30 rfl (lv_at hl 2 rfl) ?_
      refine lv_bipush (v := 6) hx hb dc_X9_digest_31 (by decide) ?_
      refine lv_icmp_ge (tgt := 247) hx hb dc_X9_digest_33 (by decide) (fun c_0 => ?_) (fun c_0 => ?_)
      · skip
        refine lv_iconst (v := 0) hx hb dc_X9_digest_247 (by decide) ?_
        refine lv_istore_n (lv' := [(3, .int ((0 : Int32))), (0, .ref mo), (1, .long (sm))]) hx hb dc_X9_digest_248 rfl hl (by decide) rfl (fun ls hl => ?_)
        refine W.widen (k := 472) (n := 9796) (by first | exact Nat.le_refl _ | omega | exact Nat.zero_le _) (by first | exact Nat.le_refl _ | omega | exact Nat.zero_le _) ?_
        exact ml_X9_digest_L249 (mo := mo) (cs := cs) (N := N) (w := w) (f := f) F hE hA hfr hAe hIT0  (7) 0 sm (by omega) (by omega) _ _ (hP.sub (ws' := [(mo, .inr (5, [.int (w.1), .ref cs, .int (w.2.1), .int (w.2.2.1), .int (w.2.2.2.1)])), (cs, .inl (G.2.1 3, 6, .inr (.inr (.inr (.inr (f))))))]) [0, 1] rfl) (hD.sub (ws' := [(mo, .inr (5, [.int (w.1), .ref cs, .int (w.2.1), .int (w.2.2.1), .int (w.2.2.2.1)])), (cs, .inl (G.2.1 3, 6, .inr (.inr (.inr (.inr (f))))))]) [0, 1] (by decide) rfl) hS  _ (lv_sub hl [1, 2, 0] rfl)
      · skip
        have h9k9 : ¬ 6 ≤ k9 := fun z => c_0 ((nI_leI (a := 6) (b := k9) (by omega) (by omega)).mpr z)
        refine lv_aload_n hx hb dc_X9_digest_36 rfl (lv_at hl 0 rfl) ?_
        refine va_get (D := G.1) (ci := 5) (v := .ref cs) (C := RX9) (T := TX9) (N := 5) hx hb hts ki_X9 hown hE.1 hP 0 rfl rfl 1 (by decide) (hts _ kw_6_20) (fun _ h9 => h9) rfl dc_X9_digest_37 ?_
        refine lv_iload_n hx hb dc_X9_digest_40 rfl (lv_at hl 2 rfl) ?_
        have hv_1 : vp_in (nI (k9)) 6 := (vp_in_nI (by omega) (by omega))
        have hIT := hIT0.ro hAe hS
        refine va_aldq hx hb hE.1 hP 1 3 rfl rfl hv_1 dc_X9_digest_41 ?_
        obtain ⟨b_1, hb_1, hI_1, ho_1⟩ := hIT.2 _ (ky_i6 hv_1)
        rw [ky_rf hb_1]
        have hX_1 : ky_It G b_1 ((w.2.2.2.2) (nI (k9)).toNatClampNeg) s.heap := by obtain ⟨b9, e9, i9, -⟩ := hIT0.2 _ (ky_i6 hv_1); have z9 : b9 = b_1 := Option.some.inj (e9.symm.trans hb_1); exact z9 ▸ i9
        refine lv_astore (lv' := [(4, .ref b_1), (0, .ref mo), (1, .long (sm)), (3, .int (nI (k9)))]) hx hb dc_X9_digest_42 hl (by decide) rfl (fun ls hl => ?_)
        refine lv_iconst (v := 0) hx hb dc_X9_digest_44 (by decide) ?_
        refine lv_istore (lv' := [(5, .int ((0 : Int32))), (4, .ref b_1), (0, .ref mo), (1, .long (sm)), (3, .int (nI (k9)))]) hx hb dc_X9_digest_45 hl (by decide) rfl (fun ls hl => ?_)
        refine lv_iload hx hb dc_X9_digest_47 (lv_at hl 0 rfl) ?_
        refine lv_iconst (v := 4) hx hb dc_X9_digest_49 (by decide) ?_
        refine lv_icmp_ge (tgt := 72) hx hb dc_X9_digest_50 (by decide) (fun c_2 => absurd c_2 (by decide)) (fun _ => ?_)
        refine lv_lload_n hx hb dc_X9_digest_53 rfl (lv_at hl 3 rfl) ?_
        refine lv_aload_n hx hb dc_X9_digest_54 rfl (lv_at hl 2 rfl) ?_
        refine lv_iload_n hx hb dc_X9_digest_55 rfl (lv_at hl 4 rfl) ?_
        refine lv_iload hx hb dc_X9_digest_56 (lv_at hl 0 rfl) ?_
        have hIT := hIT0.ro hAe hS
        refine ky_cVh (As := [.int (nI (k9)), .int ((0 : Int32))]) (wr := []) F (hE.at hfr hS) hfr (mt_X9_digitW l G mo cs N w f (nI (k9)) (0 : Int32) H.size (vp_in_nI (by omega) (by omega))) kv_X9_167 ⟨⟨rfl, rfl⟩, Nat.le_of_ble_eq_true rfl, Nat.le_of_ble_eq_true rfl⟩ rfl hl.1 rfl (Nat.le_of_ble_eq_true rfl) ⟨by show (_ : Nat) ≤ 488; omega, by show (_ : Nat) ≤ 10184; omega⟩ (va_recv hE.1 hP (ci := 5) (q0 := 0) rfl rfl) hIT hP hD hS hA [0, 1] [] rfl rfl (by decide) (by decide) (by decide) dc_X9_digest_58 ?_
        rintro v9 u9 H locs ⟨r_3, rfl⟩ hP hD hS - hz hk9
        have hP : va_P G.1 kcl [(mo, .inr (5, [.int (w.1), .ref cs, .int (w.2.1), .int (w.2.2.1), .int (w.2.2.2.1)])), (cs, .inl (G.2.1 3, 6, .inr (.inr (.inr (.inr (f))))))] H := hP
        have hD : va_D A [(mo, .inr (5, [.int (w.1), .ref cs, .int (w.2.1), .int (w.2.2.1), .int (w.2.2.2.1)])), (cs, .inl (G.2.1 3, 6, .inr (.inr (.inr (.inr (f))))))] := hD
        refine W.widen (k := 4 + 78 * k9) (n := 16 + 1630 * k9) (by first | exact Nat.le_refl _ | omega) (by first | exact Nat.le_refl _ | omega) ?_
        refine lv_i2l (v := (r_3).toInt64) hx hb dc_X9_digest_61 rfl ?_
        refine ky_cS0 (As := [.long (sm), .long ((r_3).toInt64)]) F (mt_X9_add l (sm) ((r_3).toInt64)) ks_X9_268 ⟨⟨rfl, rfl⟩, by decide, by decide⟩ rfl hl.1 rfl (Nat.le_of_ble_eq_true rfl) ⟨by show (_ : Nat) ≤ 488; omega, by show (_ : Nat) ≤ 10184; omega⟩ dc_X9_digest_62 ?_
        generalize ((fn_X9_add (sm) ((r_3).toInt64)) : Int64) = j_4
        refine lv_lstore_n (lv' := [(1, .long (j_4)), (5, .int ((0 : Int32))), (4, .ref b_1), (0, .ref mo), (3, .int (nI (k9)))]) hx hb dc_X9_digest_65 rfl hl (by decide) rfl (fun ls hl => ?_)
        refine lv_iinc (v := (1 : Int32)) (lv' := [(5, .int ((1 : Int32))), (1, .long (j_4)), (4, .ref b_1), (0, .ref mo), (3, .int (nI (k9)))]) hx hb dc_X9_digest_66 hl (k := 1) rfl (by decide) (by decide) rfl (fun ls hl => ?_)
        refine lv_goto (tgt := 47) hx hb dc_X9_digest_69 (by decide) ?_
        refine lv_iload hx hb dc_X9_digest_47 (lv_at hl 0 rfl) ?_
        refine lv_iconst (v := 4) hx hb dc_X9_digest_49 (by decide) ?_
        refine lv_icmp_ge (tgt := 72) hx hb dc_X9_digest_50 (by decide) (fun c_5 => absurd c_5 (by decide)) (fun _ => ?_)
        refine lv_lload_n hx hb dc_X9_digest_53 rfl (lv_at hl 1 rfl) ?_
        refine lv_aload_n hx hb dc_X9_digest_54 rfl (lv_at hl 3 rfl) ?_
        refine lv_iload_n hx hb dc_X9_digest_55 rfl (lv_at hl 4 rfl) ?_
        refine lv_iload hx hb dc_X9_digest_56 (lv_at hl 0 rfl) ?_
        have hIT := hIT0.ro hAe hS
        refine ky_cVh (As := [.int (nI (k9)), .int ((1 : Int32))]) (wr := []) F (hE.at hfr hS) hfr (mt_X9_digitW l G mo cs N w f (nI (k9)) (1 : Int32) H.size (vp_in_nI (by omega) (by omega))) kv_X9_167 ⟨⟨rfl, rfl⟩, Nat.le_of_ble_eq_true rfl, Nat.le_of_ble_eq_true rfl⟩ rfl hl.1 rfl (Nat.le_of_ble_eq_true rfl) ⟨by show (_ : Nat) ≤ 488; omega, by show (_ : Nat) ≤ 10184; omega⟩ (va_recv hE.1 hP (ci := 5) (q0 := 0) rfl rfl) hIT hP hD hS hA [0, 1] [] rfl rfl (by decide) (by decide) (by decide) dc_X9_digest_58 ?_
        rintro v9 u9 H locs ⟨r_6, rfl⟩ hP hD hS - hz hk9
        have hP : va_P G.1 kcl [(mo, .inr (5, [.int (w.1), .ref cs, .int (w.2.1), .int (w.2.2.1), .int (w.2.2.2.1)])), (cs, .inl (G.2.1 3, 6, .inr (.inr (.inr (.inr (f))))))] H := hP
        have hD : va_D A [(mo, .inr (5, [.int (w.1), .ref cs, .int (w.2.1), .int (w.2.2.1), .int (w.2.2.2.1)])), (cs, .inl (G.2.1 3, 6, .inr (.inr (.inr (.inr (f))))))] := hD
        refine W.widen (k := 4 + 78 * k9) (n := 16 + 1630 * k9) (by first | exact Nat.le_refl _ | omega) (by first | exact Nat.le_refl _ | omega) ?_
        refine lv_i2l (v := (r_6).toInt64) hx hb dc_X9_digest_61 rfl ?_
        refine ky_cS0 (As := [.long (j_4), .long ((r_6).toInt64)]) F (mt_X9_add l (j_4) ((r_6).toInt64)) ks_X9_268 ⟨⟨rfl, rfl⟩, by decide, by decide⟩ rfl hl.1 rfl (Nat.le_of_ble_eq_true rfl) ⟨by show (_ : Nat) ≤ 488; omega, by show (_ : Nat) ≤ 10184; omega⟩ dc_X9_digest_62 ?_
        generalize ((fn_X9_add (j_4) ((r_6).toInt64)) : Int64) = j_7
        refine lv_lstore_n (lv' := [(1, .long (j_7)), (5, .int ((1 : Int32))), (4, .ref b_1), (0, .ref mo), (3, .int (nI (k9)))]) hx hb dc_X9_digest_65 rfl hl (by decide) rfl (fun ls hl => ?_)
        refine lv_iinc (v := (2 : Int32)) (lv' := [(5, .int ((2 : Int32))), (1, .long (j_7)), (4, .ref b_1), (0, .ref mo), (3, .int (nI (k9)))]) hx hb dc_X9_digest_66 hl (k := 1) rfl (by decide) (by decide) rfl (fun ls hl => ?_)
        refine lv_goto (tgt := 47) hx hb dc_X9_digest_69 (by decide) ?_
        refine lv_iload hx hb dc_X9_digest_47 (lv_at hl 0 rfl) ?_
        refine lv_iconst (v := 4) hx hb dc_X9_digest_49 (by decide) ?_
        refine lv_icmp_ge (tgt := 72) hx hb dc_X9_digest_50 (by decide) (fun c_8 => absurd c_8 (by decide)) (fun _ => ?_)
        refine lv_lload_n hx hb dc_X9_digest_53 rfl (lv_at hl 1 rfl) ?_
        refine lv_aload_n hx hb dc_X9_digest_54 rfl (lv_at hl 3 rfl) ?_
        refine lv_iload_n hx hb dc_X9_digest_55 rfl (lv_at hl 4 rfl) ?_
        refine lv_iload hx hb dc_X9_digest_56 (lv_at hl 0 rfl) ?_
        have hIT := hIT0.ro hAe hS
        refine ky_cVh (As := [.int (nI (k9)), .int ((2 : Int32))]) (wr := []) F (hE.at hfr hS) hfr (mt_X9_digitW l G mo cs N w f (nI (k9)) (2 : Int32) H.size (vp_in_nI (by omega) (by omega))) kv_X9_167 ⟨⟨rfl, rfl⟩, Nat.le_of_ble_eq_true rfl, Nat.le_of_ble_eq_true rfl⟩ rfl hl.1 rfl (Nat.le_of_ble_eq_true rfl) ⟨by show (_ : Nat) ≤ 488; omega, by show (_ : Nat) ≤ 10184; omega⟩ (va_recv hE.1 hP (ci := 5) (q0 := 0) rfl rfl) hIT hP hD hS hA [0, 1] [] rfl rfl (by decide) (by decide) (by decide) dc_X9_digest_58 ?_
        rintro v9 u9 H locs ⟨r_9, rfl⟩ hP hD hS - hz hk9
        have hP : va_P G.1 kcl [(mo, .inr (5, [.int (w.1), .ref cs, .int (w.2.1), .int (w.2.2.1), .int (w.2.2.2.1)])), (cs, .inl (G.2.1 3, 6, .inr (.inr (.inr (.inr (f))))))] H := hP
        have hD : va_D A [(mo, .inr (5, [.int (w.1), .ref cs, .int (w.2.1), .int (w.2.2.1), .int (w.2.2.2.1)])), (cs, .inl (G.2.1 3, 6, .inr (.inr (.inr (.inr (f))))))] := hD
        refine W.widen (k := 4 + 78 * k9) (n := 16 + 1630 * k9) (by first | exact Nat.le_refl _ | omega) (by first | exact Nat.le_refl _ | omega) ?_
        refine lv_i2l (v := (r_9).toInt64) hx hb dc_X9_digest_61 rfl ?_
        refine ky_cS0 (As := [.long (j_7), .long ((r_9).toInt64)]) F (mt_X9_add l (j_7) ((r_9).toInt64)) ks_X9_268 ⟨⟨rfl, rfl⟩, by decide, by decide⟩ rfl hl.1 rfl (Nat.le_of_ble_eq_true rfl) ⟨by show (_ : Nat) ≤ 488; omega, by show (_ : Nat) ≤ 10184; omega⟩ dc_X9_digest_62 ?_
        generalize ((fn_X9_add (j_7) ((r_9).toInt64)) : Int64) = j_10
        refine lv_lstore_n (lv' := [(1, .long (j_10)), (5, .int ((2 : Int32))), (4, .ref b_1), (0, .ref mo), (3, .int (nI (k9)))]) hx hb dc_X9_digest_65 rfl hl (by decide) rfl (fun ls hl => ?_)
        refine lv_iinc (v := (3 : Int32)) (lv' := [(5, .int ((3 : Int32))), (1, .long (j_10)), (4, .ref b_1), (0, .ref mo), (3, .int (nI (k9)))]) hx hb dc_X9_digest_66 hl (k := 1) rfl (by decide) (by decide) rfl (fun ls hl => ?_)
        refine lv_goto (tgt := 47) hx hb dc_X9_digest_69 (by decide) ?_
        refine lv_iload hx hb dc_X9_digest_47 (lv_at hl 0 rfl) ?_
        refine lv_iconst (v := 4) hx hb dc_X9_digest_49 (by decide) ?_
        refine lv_icmp_ge (tgt := 72) hx hb dc_X9_digest_50 (by decide) (fun c_11 => absurd c_11 (by decide)) (fun _ => ?_)
        refine lv_lload_n hx hb dc_X9_digest_53 rfl (lv_at hl 1 rfl) ?_
        refine lv_aload_n hx hb dc_X9_digest_54 rfl (lv_at hl 3 rfl) ?_
        refine lv_iload_n hx hb dc_X9_digest_55 rfl (lv_at hl 4 rfl) ?_
        refine lv_iload hx hb dc_X9_digest_56 (lv_at hl 0 rfl) ?_
        have hIT := hIT0.ro hAe hS
        refine ky_cVh (As := [.int (nI (k9)), .int ((3 : Int32))]) (wr := []) F (hE.at hfr hS) hfr (mt_X9_digitW l G mo cs N w f (nI (k9)) (3 : Int32) H.size (vp_in_nI (by omega) (by omega))) kv_X9_167 ⟨⟨rfl, rfl⟩, Nat.le_of_ble_eq_true rfl, Nat.le_of_ble_eq_true rfl⟩ rfl hl.1 rfl (Nat.le_of_ble_eq_true rfl) ⟨by show (_ : Nat) ≤ 488; omega, by show (_ : Nat) ≤ 10184; omega⟩ (va_recv hE.1 hP (ci := 5) (q0 := 0) rfl rfl) hIT hP hD hS hA [0, 1] [] rfl rfl (by decide) (by decide) (by decide) dc_X9_digest_58 ?_
        rintro v9 u9 H locs ⟨r_12, rfl⟩ hP hD hS - hz hk9
        have hP : va_P G.1 kcl [(mo, .inr (5, [.int (w.1), .ref cs, .int (w.2.1), .int (w.2.2.1), .int (w.2.2.2.1)])), (cs, .inl (G.2.1 3, 6, .inr (.inr (.inr (.inr (f))))))] H := hP
        have hD : va_D A [(mo, .inr (5, [.int (w.1), .ref cs, .int (w.2.1), .int (w.2.2.1), .int (w.2.2.2.1)])), (cs, .inl (G.2.1 3, 6, .inr (.inr (.inr (.inr (f))))))] := hD
        refine W.widen (k := 4 + 78 * k9) (n := 16 + 1630 * k9) (by first | exact Nat.le_refl _ | omega) (by first | exact Nat.le_refl _ | omega) ?_
        refine lv_i2l (v := (r_12).toInt64) hx hb dc_X9_digest_61 rfl ?_
        refine ky_cS0 (As := [.long (j_10), .long ((r_12).toInt64)]) F (mt_X9_add l (j_10) ((r_12).toInt64)) ks_X9_268 ⟨⟨rfl, rfl⟩, by decide, by decide⟩ rfl hl.1 rfl (Nat.le_of_ble_eq_true rfl) ⟨by show (_ : Nat) ≤ 488; omega, by show (_ : Nat) ≤ 10184; omega⟩ dc_X9_digest_62 ?_
        generalize ((fn_X9_add (j_10) ((r_12).toInt64)) : Int64) = j_13
        refine lv_lstore_n (lv' := [(1, .long (j_13)), (5, .int ((3 : Int32))), (4, .ref b_1), (0, .ref mo), (3, .int (nI (k9)))]) hx hb dc_X9_digest_65 rfl hl (by decide) rfl (fun ls hl => ?_)
        refine lv_iinc (v := (4 : Int32)) (lv' := [(5, .int ((4 : Int32))), (1, .long (j_13)), (4, .ref b_1), (0, .ref mo), (3, .int (nI (k9)))]) hx hb dc_X9_digest_66 hl (k := 1) rfl (by decide) (by decide) rfl (fun ls hl => ?_)
        refine lv_goto (tgt := 47) hx hb dc_X9_digest_69 (by decide) ?_
        refine lv_iload hx hb dc_X9_digest_47 (lv_at hl 0 rfl) ?_
        refine lv_iconst (v := 4) hx hb dc_X9_digest_49 (by decide) ?_
        refine lv_icmp_ge (tgt := 72) hx hb dc_X9_digest_50 (by decide) (fun _ => ?_) (fun c_14 => absurd c_14 (by decide))
        refine lv_lload_n hx hb dc_X9_digest_72 rfl (lv_at hl 1 rfl) ?_
        refine lv_aload hx hb dc_X9_digest_73 (lv_at hl 2 rfl) ?_
        have hI_1 := ky_ro2 hX_1 ho_1 hAe hS
        refine ky_cV1 (As := []) F (hE.at hfr hS) (mt_X8_kind l G (b_1) (((w.2.2.2.2) (nI (k9)).toNatClampNeg)) ) kv_X9_47 ⟨⟨rfl, rfl⟩, by decide, by decide⟩ rfl hl.1 rfl (Nat.le_of_ble_eq_true rfl) ⟨by show (_ : Nat) ≤ 488; omega, by show (_ : Nat) ≤ 10184; omega⟩ (va_recv hE.1 hI_1 (ci := 4) (q0 := 0) rfl rfl) hI_1 dc_X9_digest_75 ?_
        refine lv_i2l (v := (fn_X8_kind ((w.2.2.2.2) (nI (k9)).toNatClampNeg)).toInt64) hx hb dc_X9_digest_78 rfl ?_
        refine ky_cS0 (As := [.long (j_13), .long ((fn_X8_kind ((w.2.2.2.2) (nI (k9)).toNatClampNeg)).toInt64)]) F (mt_X9_add l (j_13) ((fn_X8_kind ((w.2.2.2.2) (nI (k9)).toNatClampNeg)).toInt64)) ks_X9_268 ⟨⟨rfl, rfl⟩, by decide, by decide⟩ rfl hl.1 rfl (Nat.le_of_ble_eq_true rfl) ⟨by show (_ : Nat) ≤ 488; omega, by show (_ : Nat) ≤ 10184; omega⟩ dc_X9_digest_79 ?_
        refine lv_aload hx hb dc_X9_digest_82 (lv_at hl 2 rfl) ?_
        have hI_1 := ky_ro2 hX_1 ho_1 hAe hS
        refine ky_cVh (As := []) (wr := [(mo, .inr (5, [.int (w.1), .ref cs, .int (w.2.1), .int (w.2.2.1), .int (w.2.2.2.1)])), (cs, .inl (G.2.1 3, 6, .inr (.inr (.inr (.inr (f))))))]) F (hE.at hfr hS) hfr (mt_X8_text l G b_1 ((w.2.2.2.2) (nI (k9)).toNatClampNeg) H.size ) kv_X9_173 ⟨⟨rfl, rfl⟩, Nat.le_of_ble_eq_true rfl, Nat.le_of_ble_eq_true rfl⟩ rfl hl.1 rfl (Nat.le_of_ble_eq_true rfl) ⟨by show (_ : Nat) ≤ 488; omega, by show (_ : Nat) ≤ 10184; omega⟩ (va_recv hE.1 hI_1 (ci := 4) (q0 := 0) rfl rfl) hI_1 hP hD hS hA [] [0, 1] rfl rfl (by decide) (by decide) (by decide) dc_X9_digest_84 ?_
        rintro v9 ⟨z_15, y_15, n_15, g_15⟩ H locs ⟨rfl, hn_15, hg_15⟩ hP hD hS - hz hk9
        have hP : va_P G.1 kcl [(mo, .inr (5, [.int (w.1), .ref cs, .int (w.2.1), .int (w.2.2.1), .int (w.2.2.2.1)])), (cs, .inl (G.2.1 3, 6, .inr (.inr (.inr (.inr (f)))))), (z_15, .inr (7, [.ref y_15, .int (0), .int (0), .int (0)])), (y_15, .inl (G.2.1 0, n_15, .inl (g_15)))] H := hP
        have hD : va_D A [(mo, .inr (5, [.int (w.1), .ref cs, .int (w.2.1), .int (w.2.2.1), .int (w.2.2.2.1)])), (cs, .inl (G.2.1 3, 6, .inr (.inr (.inr (.inr (f)))))), (z_15, .inr (7, [.ref y_15, .int (0), .int (0), .int (0)])), (y_15, .inl (G.2.1 0, n_15, .inl (g_15)))] := hD
        refine W.widen (k := 4 + 78 * k9 + 8) (n := 16 + 1630 * k9 + 194) (by first | exact Nat.le_refl _ | omega) (by first | exact Nat.le_refl _ | omega) ?_
        refine ky_cSh (As := [.long (fn_X9_add (j_13) ((fn_X8_kind ((w.2.2.2.2) (nI (k9)).toNatClampNeg)).toInt64)), .ref z_15]) (wr := [(mo, .inr (5, [.int (w.1), .ref cs, .int (w.2.1), .int (w.2.2.1), .int (w.2.2.2.1)])), (cs, .inl (G.2.1 3, 6, .inr (.inr (.inr (.inr (f))))))]) F (hE.at hfr hS) hfr (mt_X9_add_ l G z_15 y_15 n_15 g_15 (fn_X9_add (j_13) ((fn_X8_kind ((w.2.2.2.2) (nI (k9)).toNatClampNeg)).toInt64)) H.size ) ks_X9_273 ⟨⟨rfl, rfl⟩, Nat.le_of_ble_eq_true rfl, Nat.le_of_ble_eq_true rfl⟩ rfl hl.1 rfl (Nat.le_of_ble_eq_true rfl) ⟨by show (_ : Nat) ≤ 488; omega, by show (_ : Nat) ≤ 10184; omega⟩ trivial hP hD hS hA [2, 3] [0, 1] rfl rfl (by decide) (by decide) (by decide) dc_X9_digest_87 ?_
        rintro v9 u9 H locs ⟨r_16, rfl⟩ hP hD hS - hz hk9
        have hP : va_P G.1 kcl [(mo, .inr (5, [.int (w.1), .ref cs, .int (w.2.1), .int (w.2.2.1), .int (w.2.2.2.1)])), (cs, .inl (G.2.1 3, 6, .inr (.inr (.inr (.inr (f)))))), (z_15, .inr (7, [.ref y_15, .int (0), .int (0), .int (0)])), (y_15, .inl (G.2.1 0, n_15, .inl (g_15)))] H := hP
        have hD : va_D A [(mo, .inr (5, [.int (w.1), .ref cs, .int (w.2.1), .int (w.2.2.1), .int (w.2.2.2.1)])), (cs, .inl (G.2.1 3, 6, .inr (.inr (.inr (.inr (f)))))), (z_15, .inr (7, [.ref y_15, .int (0), .int (0), .int (0)])), (y_15, .inl (G.2.1 0, n_15, .inl (g_15)))] := hD
        refine W.widen (k := 4 + 78 * k9 + 8) (n := 16 + 1630 * k9 + 194) (by first | exact Nat.le_refl _ | omega) (by first | exact Nat.le_refl _ | omega) ?_
        have hP := hP.sub (ws' := [(mo, .inr (5, [.int (w.1), .ref cs, .int (w.2.1), .int (w.2.2.1), .int (w.2.2.2.1)])), (cs, .inl (G.2.1 3, 6, .inr (.inr (.inr (.inr (f))))))]) [0, 1] rfl
        have hD := hD.sub (ws' := [(mo, .inr (5, [.int (w.1), .ref cs, .int (w.2.1), .int (w.2.2.1), .int (w.2.2.2.1)])), (cs, .inl (G.2.1 3, 6, .inr (.inr (.inr (.inr (f))))))]) [0, 1] (by decide) rfl
        refine lv_aload hx hb dc_X9_digest_90 (lv_at hl 2 rfl) ?_
        have hI_1 := ky_ro2 hX_1 ho_1 hAe hS
        refine ky_cV1 (As := []) F (hE.at hfr hS) (mt_X8_exponent l G (b_1) (((w.2.2.2.2) (nI (k9)).toNatClampNeg)) ) kv_X9_137 ⟨⟨rfl, rfl⟩, by decide, by decide⟩ rfl hl.1 rfl (Nat.le_of_ble_eq_true rfl) ⟨by show (_ : Nat) ≤ 488; omega, by show (_ : Nat) ≤ 10184; omega⟩ (va_recv hE.1 hI_1 (ci := 4) (q0 := 0) rfl rfl) hI_1 dc_X9_digest_92 ?_
        refine lv_i2l (v := (fn_X8_exponent ((w.2.2.2.2) (nI (k9)).toNatClampNeg)).toInt64) hx hb dc_X9_digest_95 rfl ?_
        refine ky_cS0 (As := [.long (r_16), .long ((fn_X8_exponent ((w.2.2.2.2) (nI (k9)).toNatClampNeg)).toInt64)]) F (mt_X9_add l (r_16) ((fn_X8_exponent ((w.2.2.2.2) (nI (k9)).toNatClampNeg)).toInt64)) ks_X9_268 ⟨⟨rfl, rfl⟩, by decide, by decide⟩ rfl hl.1 rfl (Nat.le_of_ble_eq_true rfl) ⟨by show (_ : Nat) ≤ 488; omega, by show (_ : Nat) ≤ 10184; omega⟩ dc_X9_digest_96 ?_
        generalize ((fn_X9_add (r_16) ((fn_X8_exponent ((w.2.2.2.2) (nI (k9)).toNatClampNeg)).toInt64)) : Int64) = j_17
        refine lv_lstore_n (lv' := [(1, .long (j_17)), (5, .int ((4 : Int32))), (4, .ref b_1), (0, .ref mo), (3, .int (nI (k9)))]) hx hb dc_X9_digest_99 rfl hl (by decide) rfl (fun ls hl => ?_)
        refine lv_lload_n hx hb dc_X9_digest_100 rfl (lv_at hl 0 rfl) ?_
        refine lv_aload_n hx hb dc_X9_digest_101 rfl (lv_at hl 3 rfl) ?_
        refine lv_iload_n hx hb dc_X9_digest_102 rfl (lv_at hl 4 rfl) ?_
        refine lv_iconst (v := 1) hx hb dc_X9_digest_103 (by decide) ?_
        have hIT := hIT0.ro hAe hS
        refine ky_cVh (As := [.int (nI (k9)), .int ((1 : Int32))]) (wr := []) F (hE.at hfr hS) hfr (mt_X9_partW l G mo cs N w f (nI (k9)) (1 : Int32) H.size (vp_in_nI (by omega) (by omega))) kv_X9_181 ⟨⟨rfl, rfl⟩, Nat.le_of_ble_eq_true rfl, Nat.le_of_ble_eq_true rfl⟩ rfl hl.1 rfl (Nat.le_of_ble_eq_true rfl) ⟨by show (_ : Nat) ≤ 488; omega, by show (_ : Nat) ≤ 10184; omega⟩ (va_recv hE.1 hP (ci := 5) (q0 := 0) rfl rfl) hIT hP hD hS hA [0, 1] [] rfl rfl (by decide) (by decide) (by decide) dc_X9_digest_104 ?_
        rintro v9 u9 H locs ⟨r_18, rfl⟩ hP hD hS - hz hk9
        have hP : va_P G.1 kcl [(mo, .inr (5, [.int (w.1), .ref cs, .int (w.2.1), .int (w.2.2.1), .int (w.2.2.2.1)])), (cs, .inl (G.2.1 3, 6, .inr (.inr (.inr (.inr (f))))))] H := hP
        have hD : va_D A [(mo, .inr (5, [.int (w.1), .ref cs, .int (w.2.1), .int (w.2.2.1), .int (w.2.2.2.1)])), (cs, .inl (G.2.1 3, 6, .inr (.inr (.inr (.inr (f))))))] := hD
        refine W.widen (k := 4 + 78 * k9 + 8) (n := 16 + 1630 * k9 + 194) (by first | exact Nat.le_refl _ | omega) (by first | exact Nat.le_refl _ | omega) ?_
        refine lv_i2l (v := (r_18).toInt64) hx hb dc_X9_digest_107 rfl ?_
        refine ky_cS0 (As := [.long (j_17), .long ((r_18).toInt64)]) F (mt_X9_add l (j_17) ((r_18).toInt64)) ks_X9_268 ⟨⟨rfl, rfl⟩, by decide, by decide⟩ rfl hl.1 rfl (Nat.le_of_ble_eq_true rfl) ⟨by show (_ : Nat) ≤ 488; omega, by show (_ : Nat) ≤ 10184; omega⟩ dc_X9_digest_108 ?_
        refine lv_aload_n hx hb dc_X9_digest_111 rfl (lv_at hl 3 rfl) ?_
        refine lv_iload_n hx hb dc_X9_digest_112 rfl (lv_at hl 4 rfl) ?_
        refine lv_iconst (v := 0) hx hb dc_X9_digest_113 (by decide) ?_
        have hIT := hIT0.ro hAe hS
        refine ky_cVh (As := [.int (nI (k9)), .int ((0 : Int32))]) (wr := []) F (hE.at hfr hS) hfr (mt_X9_partW l G mo cs N w f (nI (k9)) (0 : Int32) H.size (vp_in_nI (by omega) (by omega))) kv_X9_181 ⟨⟨rfl, rfl⟩, Nat.le_of_ble_eq_true rfl, Nat.le_of_ble_eq_true rfl⟩ rfl hl.1 rfl (Nat.le_of_ble_eq_true rfl) ⟨by show (_ : Nat) ≤ 488; omega, by show (_ : Nat) ≤ 10184; omega⟩ (va_recv hE.1 hP (ci := 5) (q0 := 0) rfl rfl) hIT hP hD hS hA [0, 1] [] rfl rfl (by decide) (by decide) (by decide) dc_X9_digest_114 ?_
        rintro v9 u9 H locs ⟨r_19, rfl⟩ hP hD hS - hz hk9
        have hP : va_P G.1 kcl [(mo, .inr (5, [.int (w.1), .ref cs, .int (w.2.1), .int (w.2.2.1), .int (w.2.2.2.1)])), (cs, .inl (G.2.1 3, 6, .inr (.inr (.inr (.inr (f))))))] H := hP
        have hD : va_D A [(mo, .inr (5, [.int (w.1), .ref cs, .int (w.2.1), .int (w.2.2.1), .int (w.2.2.2.1)])), (cs, .inl (G.2.1 3, 6, .inr (.inr (.inr (.inr (f))))))] := hD
        refine W.widen (k := 4 + 78 * k9 + 8) (n := 16 + 1630 * k9 + 194) (by first | exact Nat.le_refl _ | omega) (by first | exact Nat.le_refl _ | omega) ?_
        refine lv_i2l (v := (r_19).toInt64) hx hb dc_X9_digest_117 rfl ?_
        refine ky_cS0 (As := [.long (fn_X9_add (j_17) ((r_18).toInt64)), .long ((r_19).toInt64)]) F (mt_X9_add l (fn_X9_add (j_17) ((r_18).toInt64)) ((r_19).toInt64)) ks_X9_268 ⟨⟨rfl, rfl⟩, by decide, by decide⟩ rfl hl.1 rfl (Nat.le_of_ble_eq_true rfl) ⟨by show (_ : Nat) ≤ 488; omega, by show (_ : Nat) ≤ 10184; omega⟩ dc_X9_digest_118 ?_
        generalize ((fn_X9_add (fn_X9_add (j_17) ((r_18).toInt64)) ((r_19).toInt64)) : Int64) = j_20
        refine lv_lstore_n (lv' := [(1, .long (j_20)), (5, .int ((4 : Int32))), (4, .ref b_1), (0, .ref mo), (3, .int (nI (k9)))]) hx hb dc_X9_digest_121 rfl hl (by decide) rfl (fun ls hl => ?_)
        refine lv_lload_n hx hb dc_X9_digest_122 rfl (lv_at hl 0 rfl) ?_
        refine lv_aload_n hx hb dc_X9_digest_123 rfl (lv_at hl 3 rfl) ?_
        refine lv_iload_n hx hb dc_X9_digest_124 rfl (lv_at hl 4 rfl) ?_
        refine lv_iconst (v := 0) hx hb dc_X9_digest_125 (by decide) ?_
        have hIT := hIT0.ro hAe hS
        refine ky_cVh (As := [.int (nI (k9)), .int ((0 : Int32))]) (wr := []) F (hE.at hfr hS) hfr (mt_X9_whole l G mo cs N w f (nI (k9)) (0 : Int32) H.size (vp_in_nI (by omega) (by omega))) kv_X9_198 ⟨⟨rfl, rfl⟩, Nat.le_of_ble_eq_true rfl, Nat.le_of_ble_eq_true rfl⟩ rfl hl.1 rfl (Nat.le_of_ble_eq_true rfl) ⟨by show (_ : Nat) ≤ 488; omega, by show (_ : Nat) ≤ 10184; omega⟩ (va_recv hE.1 hP (ci := 5) (q0 := 0) rfl rfl) hIT hP hD hS hA [0, 1] [] rfl rfl (by decide) (by decide) (by decide) dc_X9_digest_126 ?_
        rintro v9 ⟨z_21, y_21, n_21, g_21⟩ H locs ⟨rfl, hn_21, hg_21⟩ hP hD hS - hz hk9
        have hP : va_P G.1 kcl [(mo, .inr (5, [.int (w.1), .ref cs, .int (w.2.1), .int (w.2.2.1), .int (w.2.2.2.1)])), (cs, .inl (G.2.1 3, 6, .inr (.inr (.inr (.inr (f)))))), (z_21, .inr (7, [.ref y_21, .int (0), .int (0), .int (0)])), (y_21, .inl (G.2.1 0, n_21, .inl (g_21)))] H := hP
        have hD : va_D A [(mo, .inr (5, [.int (w.1), .ref cs, .int (w.2.1), .int (w.2.2.1), .int (w.2.2.2.1)])), (cs, .inl (G.2.1 3, 6, .inr (.inr (.inr (.inr (f)))))), (z_21, .inr (7, [.ref y_21, .int (0), .int (0), .int (0)])), (y_21, .inl (G.2.1 0, n_21, .inl (g_21)))] := hD
        refine W.widen (k := 4 + 78 * k9 + 8 + 6) (n := 16 + 1630 * k9 + 194 + 126) (by first | exact Nat.le_refl _ | omega) (by first | exact Nat.le_refl _ | omega) ?_
        refine ky_cSh (As := [.long (j_20), .ref z_21]) (wr := [(mo, .inr (5, [.int (w.1), .ref cs, .int (w.2.1), .int (w.2.2.1), .int (w.2.2.2.1)])), (cs, .inl (G.2.1 3, 6, .inr (.inr (.inr (.inr (f))))))]) F (hE.at hfr hS) hfr (mt_X9_add_ l G z_21 y_21 n_21 g_21 j_20 H.size ) ks_X9_273 ⟨⟨rfl, rfl⟩, Nat.le_of_ble_eq_true rfl, Nat.le_of_ble_eq_true rfl⟩ rfl hl.1 rfl (Nat.le_of_ble_eq_true rfl) ⟨by show (_ : Nat) ≤ 488; omega, by show (_ : Nat) ≤ 10184; omega⟩ trivial hP hD hS hA [2, 3] [0, 1] rfl rfl (by decide) (by decide) (by decide) dc_X9_digest_129 ?_
        rintro v9 u9 H locs ⟨r_22, rfl⟩ hP hD hS - hz hk9
        have hP : va_P G.1 kcl [(mo, .inr (5, [.int (w.1), .ref cs, .int (w.2.1), .int (w.2.2.1), .int (w.2.2.2.1)])), (cs, .inl (G.2.1 3, 6, .inr (.inr (.inr (.inr (f)))))), (z_21, .inr (7, [.ref y_21, .int (0), .int (0), .int (0)])), (y_21, .inl (G.2.1 0, n_21, .inl (g_21)))] H := hP
        have hD : va_D A [(mo, .inr (5, [.int (w.1), .ref cs, .int (w.2.1), .int (w.2.2.1), .int (w.2.2.2.1)])), (cs, .inl (G.2.1 3, 6, .inr (.inr (.inr (.inr (f)))))), (z_21, .inr (7, [.ref y_21, .int (0), .int (0), .int (0)])), (y_21, .inl (G.2.1 0, n_21, .inl (g_21)))] := hD
        refine W.widen (k := 4 + 78 * k9 + 8 + 6) (n := 16 + 1630 * k9 + 194 + 126) (by first | exact Nat.le_refl _ | omega) (by first | exact Nat.le_refl _ | omega) ?_
        have hP := hP.sub (ws' := [(mo, .inr (5, [.int (w.1), .ref cs, .int (w.2.1), .int (w.2.2.1), .int (w.2.2.2.1)])), (cs, .inl (G.2.1 3, 6, .inr (.inr (.inr (.inr (f))))))]) [0, 1] rfl
        have hD := hD.sub (ws' := [(mo, .inr (5, [.int (w.1), .ref cs, .int (w.2.1), .int (w.2.2.1), .int (w.2.2.2.1)])), (cs, .inl (G.2.1 3, 6, .inr (.inr (.inr (.inr (f))))))]) [0, 1] (by decide) rfl
        refine lv_aload_n hx hb dc_X9_digest_132 rfl (lv_at hl 3 rfl) ?_
        refine lv_iload_n hx hb dc_X9_digest_133 rfl (lv_at hl 4 rfl) ?_
        refine lv_iconst (v := 1) hx hb dc_X9_digest_134 (by decide) ?_
        have hIT := hIT0.ro hAe hS
        refine ky_cVh (As := [.int (nI (k9)), .int ((1 : Int32))]) (wr := []) F (hE.at hfr hS) hfr (mt_X9_whole l G mo cs N w f (nI (k9)) (1 : Int32) H.size (vp_in_nI (by omega) (by omega))) kv_X9_198 ⟨⟨rfl, rfl⟩, Nat.le_of_ble_eq_true rfl, Nat.le_of_ble_eq_true rfl⟩ rfl hl.1 rfl (Nat.le_of_ble_eq_true rfl) ⟨by show (_ : Nat) ≤ 488; omega, by show (_ : Nat) ≤ 10184; omega⟩ (va_recv hE.1 hP (ci := 5) (q0 := 0) rfl rfl) hIT hP hD hS hA [0, 1] [] rfl rfl (by decide) (by decide) (by decide) dc_X9_digest_135 ?_
        rintro v9 ⟨z_23, y_23, n_23, g_23⟩ H locs ⟨rfl, hn_23, hg_23⟩ hP hD hS - hz hk9
        have hP : va_P G.1 kcl [(mo, .inr (5, [.int (w.1), .ref cs, .int (w.2.1), .int (w.2.2.1), .int (w.2.2.2.1)])), (cs, .inl (G.2.1 3, 6, .inr (.inr (.inr (.inr (f)))))), (z_23, .inr (7, [.ref y_23, .int (0), .int (0), .int (0)])), (y_23, .inl (G.2.1 0, n_23, .inl (g_23)))] H := hP
        have hD : va_D A [(mo, .inr (5, [.int (w.1), .ref cs, .int (w.2.1), .int (w.2.2.1), .int (w.2.2.2.1)])), (cs, .inl (G.2.1 3, 6, .inr (.inr (.inr (.inr (f)))))), (z_23, .inr (7, [.ref y_23, .int (0), .int (0), .int (0)])), (y_23, .inl (G.2.1 0, n_23, .inl (g_23)))] := hD
        refine W.widen (k := 4 + 78 * k9 + 8 + 6 + 6) (n := 16 + 1630 * k9 + 194 + 126 + 126) (by first | exact Nat.le_refl _ | omega) (by first | exact Nat.le_refl _ | omega) ?_
        refine ky_cSh (As := [.long (r_22), .ref z_23]) (wr := [(mo, .inr (5, [.int (w.1), .ref cs, .int (w.2.1), .int (w.2.2.1), .int (w.2.2.2.1)])), (cs, .inl (G.2.1 3, 6, .inr (.inr (.inr (.inr (f))))))]) F (hE.at hfr hS) hfr (mt_X9_add_ l G z_23 y_23 n_23 g_23 r_22 H.size ) ks_X9_273 ⟨⟨rfl, rfl⟩, Nat.le_of_ble_eq_true rfl, Nat.le_of_ble_eq_true rfl⟩ rfl hl.1 rfl (Nat.le_of_ble_eq_true rfl) ⟨by show (_ : Nat) ≤ 488; omega, by show (_ : Nat) ≤ 10184; omega⟩ trivial hP hD hS hA [2, 3] [0, 1] rfl rfl (by decide) (by decide) (by decide) dc_X9_digest_138 ?_
        rintro v9 u9 H locs ⟨r_24, rfl⟩ hP hD hS - hz hk9
        have hP : va_P G.1 kcl [(mo, .inr (5, [.int (w.1), .ref cs, .int (w.2.1), .int (w.2.2.1), .int (w.2.2.2.1)])), (cs, .inl (G.2.1 3, 6, .inr (.inr (.inr (.inr (f)))))), (z_23, .inr (7, [.ref y_23, .int (0), .int (0), .int (0)])), (y_23, .inl (G.2.1 0, n_23, .inl (g_23)))] H := hP
        have hD : va_D A [(mo, .inr (5, [.int (w.1), .ref cs, .int (w.2.1), .int (w.2.2.1), .int (w.2.2.2.1)])), (cs, .inl (G.2.1 3, 6, .inr (.inr (.inr (.inr (f)))))), (z_23, .inr (7, [.ref y_23, .int (0), .int (0), .int (0)])), (y_23, .inl (G.2.1 0, n_23, .inl (g_23)))] := hD
        refine W.widen (k := 4 + 78 * k9 + 8 + 6 + 6) (n := 16 + 1630 * k9 + 194 + 126 + 126) (by first | exact Nat.le_refl _ | omega) (by first | exact Nat.le_refl _ | omega) ?_
        have hP := hP.sub (ws' := [(mo, .inr (5, [.int (w.1), .ref cs, .int (w.2.1), .int (w.2.2.1), .int (w.2.2.2.1)])), (cs, .inl (G.2.1 3, 6, .inr (.inr (.inr (.inr (f))))))]) [0, 1] rfl
        have hD := hD.sub (ws' := [(mo, .inr (5, [.int (w.1), .ref cs, .int (w.2.1), .int (w.2.2.1), .int (w.2.2.2.1)])), (cs, .inl (G.2.1 3, 6, .inr (.inr (.inr (.inr (f))))))]) [0, 1] (by decide) rfl
        refine lv_aload_n hx hb dc_X9_digest_141 rfl (lv_at hl 3 rfl) ?_
        refine lv_iload_n hx hb dc_X9_digest_142 rfl (lv_at hl 4 rfl) ?_
        have hIT := hIT0.ro hAe hS
        refine ky_cVh (As := [.int (nI (k9))]) (wr := []) F (hE.at hfr hS) hfr (mt_X9_shortNowW l G mo cs N w f (nI (k9)) H.size (vp_in_nI (by omega) (by omega))) kv_X9_214 ⟨⟨rfl, rfl⟩, Nat.le_of_ble_eq_true rfl, Nat.le_of_ble_eq_true rfl⟩ rfl hl.1 rfl (Nat.le_of_ble_eq_true rfl) ⟨by show (_ : Nat) ≤ 488; omega, by show (_ : Nat) ≤ 10184; omega⟩ (va_recv hE.1 hP (ci := 5) (q0 := 0) rfl rfl) hIT hP hD hS hA [0, 1] [] rfl rfl (by decide) (by decide) (by decide) dc_X9_digest_143 ?_
        rintro v9 u9 H locs ⟨r_25, rfl⟩ hP hD hS - hz hk9
        have hP : va_P G.1 kcl [(mo, .inr (5, [.int (w.1), .ref cs, .int (w.2.1), .int (w.2.2.1), .int (w.2.2.2.1)])), (cs, .inl (G.2.1 3, 6, .inr (.inr (.inr (.inr (f))))))] H := hP
        have hD : va_D A [(mo, .inr (5, [.int (w.1), .ref cs, .int (w.2.1), .int (w.2.2.1), .int (w.2.2.2.1)])), (cs, .inl (G.2.1 3, 6, .inr (.inr (.inr (.inr (f))))))] := hD
        refine W.widen (k := 4 + 78 * k9 + 8 + 6 + 6) (n := 16 + 1630 * k9 + 194 + 126 + 126) (by first | exact Nat.le_refl _ | omega) (by first | exact Nat.le_refl _ | omega) ?_
        refine lv_i2l (v := (r_25).toInt64) hx hb dc_X9_digest_146 rfl ?_
        refine ky_cS0 (As := [.long (r_24), .long ((r_25).toInt64)]) F (mt_X9_add l (r_24) ((r_25).toInt64)) ks_X9_268 ⟨⟨rfl, rfl⟩, by decide, by decide⟩ rfl hl.1 rfl (Nat.le_of_ble_eq_true rfl) ⟨by show (_ : Nat) ≤ 488; omega, by show (_ : Nat) ≤ 10184; omega⟩ dc_X9_digest_147 ?_
        generalize ((fn_X9_add (r_24) ((r_25).toInt64)) : Int64) = j_26
        refine lv_lstore_n (lv' := [(1, .long (j_26)), (5, .int ((4 : Int32))), (4, .ref b_1), (0, .ref mo), (3, .int (nI (k9)))]) hx hb dc_X9_digest_150 rfl hl (by decide) rfl (fun ls hl => ?_)
        refine lv_lload_n hx hb dc_X9_digest_151 rfl (lv_at hl 0 rfl) ?_
        refine lv_aload hx hb dc_X9_digest_152 (lv_at hl 2 rfl) ?_
        have hI_1 := ky_ro2 hX_1 ho_1 hAe hS
        refine ky_cV1 (As := []) F (hE.at hfr hS) (mt_X8_rung l G (b_1) (((w.2.2.2.2) (nI (k9)).toNatClampNeg)) ) kv_X9_217 ⟨⟨rfl, rfl⟩, by decide, by decide⟩ rfl hl.1 rfl (Nat.le_of_ble_eq_true rfl) ⟨by show (_ : Nat) ≤ 488; omega, by show (_ : Nat) ≤ 10184; omega⟩ (va_recv hE.1 hI_1 (ci := 4) (q0 := 0) rfl rfl) hI_1 dc_X9_digest_154 ?_
        refine ky_cS0 (As := [.long (fn_X8_rung ((w.2.2.2.2) (nI (k9)).toNatClampNeg))]) F (mt_X9_signOf l (fn_X8_rung ((w.2.2.2.2) (nI (k9)).toNatClampNeg))) ks_X9_220 ⟨⟨rfl, rfl⟩, by decide, by decide⟩ rfl hl.1 rfl (Nat.le_of_ble_eq_true rfl) ⟨by show (_ : Nat) ≤ 488; omega, by show (_ : Nat) ≤ 10184; omega⟩ dc_X9_digest_157 ?_
        refine lv_i2l (v := (fn_X9_signOf (fn_X8_rung ((w.2.2.2.2) (nI (k9)).toNatClampNeg))).toInt64) hx hb dc_X9_digest_160 rfl ?_
        refine ky_cS0 (As := [.long (j_26), .long ((fn_X9_signOf (fn_X8_rung ((w.2.2.2.2) (nI (k9)).toNatClampNeg))).toInt64)]) F (mt_X9_add l (j_26) ((fn_X9_signOf (fn_X8_rung ((w.2.2.2.2) (nI (k9)).toNatClampNeg))).toInt64)) ks_X9_268 ⟨⟨rfl, rfl⟩, by decide, by decide⟩ rfl hl.1 rfl (Nat.le_of_ble_eq_true rfl) ⟨by show (_ : Nat) ≤ 488; omega, by show (_ : Nat) ≤ 10184; omega⟩ dc_X9_digest_161 ?_
        refine lv_aload_n hx hb dc_X9_digest_164 rfl (lv_at hl 3 rfl) ?_
        refine lv_iload_n hx hb dc_X9_digest_165 rfl (lv_at hl 4 rfl) ?_
        have hIT := hIT0.ro hAe hS
        refine ky_cVh (As := [.int (nI (k9))]) (wr := []) F (hE.at hfr hS) hfr (mt_X9_placeNowW l G mo cs N w f (nI (k9)) H.size (vp_in_nI (by omega) (by omega))) kv_X9_244 ⟨⟨rfl, rfl⟩, Nat.le_of_ble_eq_true rfl, Nat.le_of_ble_eq_true rfl⟩ rfl hl.1 rfl (Nat.le_of_ble_eq_true rfl) ⟨by show (_ : Nat) ≤ 488; omega, by show (_ : Nat) ≤ 10184; omega⟩ (va_recv hE.1 hP (ci := 5) (q0 := 0) rfl rfl) hIT hP hD hS hA [0, 1] [] rfl rfl (by decide) (by decide) (by decide) dc_X9_digest_166 ?_
        rintro v9 u9 H locs ⟨r_27, rfl⟩ hP hD hS - hz hk9
        have hP : va_P G.1 kcl [(mo, .inr (5, [.int (w.1), .ref cs, .int (w.2.1), .int (w.2.2.1), .int (w.2.2.2.1)])), (cs, .inl (G.2.1 3, 6, .inr (.inr (.inr (.inr (f))))))] H := hP
        have hD : va_D A [(mo, .inr (5, [.int (w.1), .ref cs, .int (w.2.1), .int (w.2.2.1), .int (w.2.2.2.1)])), (cs, .inl (G.2.1 3, 6, .inr (.inr (.inr (.inr (f))))))] := hD
        refine W.widen (k := 4 + 78 * k9 + 8 + 6 + 6) (n := 16 + 1630 * k9 + 194 + 126 + 126) (by first | exact Nat.le_refl _ | omega) (by first | exact Nat.le_refl _ | omega) ?_
        refine lv_i2l (v := (r_27).toInt64) hx hb dc_X9_digest_169 rfl ?_
        refine ky_cS0 (As := [.long (fn_X9_add (j_26) ((fn_X9_signOf (fn_X8_rung ((w.2.2.2.2) (nI (k9)).toNatClampNeg))).toInt64)), .long ((r_27).toInt64)]) F (mt_X9_add l (fn_X9_add (j_26) ((fn_X9_signOf (fn_X8_rung ((w.2.2.2.2) (nI (k9)).toNatClampNeg))).toInt64)) ((r_27).toInt64)) ks_X9_268 ⟨⟨rfl, rfl⟩, by decide, by decide⟩ rfl hl.1 rfl (Nat.le_of_ble_eq_true rfl) ⟨by show (_ : Nat) ≤ 488; omega, by show (_ : Nat) ≤ 10184; omega⟩ dc_X9_digest_170 ?_
        generalize ((fn_X9_add (fn_X9_add (j_26) ((fn_X9_signOf (fn_X8_rung ((w.2.2.2.2) (nI (k9)).toNatClampNeg))).toInt64)) ((r_27).toInt64)) : Int64) = j_28
        refine lv_lstore_n (lv' := [(1, .long (j_28)), (5, .int ((4 : Int32))), (4, .ref b_1), (0, .ref mo), (3, .int (nI (k9)))]) hx hb dc_X9_digest_173 rfl hl (by decide) rfl (fun ls hl => ?_)
        refine lv_iconst (v := 0) hx hb dc_X9_digest_174 (by decide) ?_
        refine lv_istore (lv' := [(5, .int ((0 : Int32))), (1, .long (j_28)), (4, .ref b_1), (0, .ref mo), (3, .int (nI (k9)))]) hx hb dc_X9_digest_175 hl (by decide) rfl (fun ls hl => ?_)
        refine lv_iload hx hb dc_X9_digest_177 (lv_at hl 0 rfl) ?_
        refine lv_iconst (v := 3) hx hb dc_X9_digest_179 (by decide) ?_
        refine lv_icmp_ge (tgt := 204) hx hb dc_X9_digest_180 (by decide) (fun c_29 => absurd c_29 (by decide)) (fun _ => ?_)
        refine lv_lload_n hx hb dc_X9_digest_183 rfl (lv_at hl 1 rfl) ?_
        refine lv_aload hx hb dc_X9_digest_184 (lv_at hl 2 rfl) ?_
        refine lv_iload hx hb dc_X9_digest_186 (lv_at hl 0 rfl) ?_
        have hI_1 := ky_ro2 hX_1 ho_1 hAe hS
        have hI_1 := ky_ro2 hX_1 ho_1 hAe hS
        have hs_30 := hS.1
        refine ky_cVh (As := [.int ((0 : Int32))]) (wr := [(mo, .inr (5, [.int (w.1), .ref cs, .int (w.2.1), .int (w.2.2.1), .int (w.2.2.2.1)])), (cs, .inl (G.2.1 3, 6, .inr (.inr (.inr (.inr (f))))))]) F (hE.at hfr hS) hfr (mt_X8_taken l G (b_1) ((w.2.2.2.2) (nI (k9)).toNatClampNeg) ((0 : Int32)) H.size (ok_X8_taken _ _)) kv_X9_108 ⟨⟨rfl, rfl⟩, by decide, by decide⟩ rfl hl.1 rfl (Nat.le_of_ble_eq_true rfl) ⟨by show (_ : Nat) ≤ 488; omega, by show (_ : Nat) ≤ 10184; omega⟩ (va_recv hE.1 hI_1 (ci := 4) (q0 := 0) rfl rfl) hI_1 hP hD hS hA [] [0, 1] rfl rfl (by decide) (by decide) (by decide) dc_X9_digest_188 ?_
        rintro v9 q_30 H locs rfl hP hD hS ⟨hI_30, hd_30⟩ hz hk9
        have hP : va_P G.1 kcl [(mo, .inr (5, [.int (w.1), .ref cs, .int (w.2.1), .int (w.2.2.1), .int (w.2.2.2.1)])), (cs, .inl (G.2.1 3, 6, .inr (.inr (.inr (.inr (f))))))] H := hP
        have hD : va_D A [(mo, .inr (5, [.int (w.1), .ref cs, .int (w.2.1), .int (w.2.2.1), .int (w.2.2.2.1)])), (cs, .inl (G.2.1 3, 6, .inr (.inr (.inr (.inr (f))))))] := hD
        have hI_1 := hI_1.fr hk9
        refine W.widen (k := 4 + 78 * k9 + 8 + 6 + 6 + 1) (n := 16 + 1630 * k9 + 194 + 126 + 126 + 2) (Nat.le_refl _) (Nat.le_refl _) ?_
        refine ky_cVh (As := []) (wr := [(mo, .inr (5, [.int (w.1), .ref cs, .int (w.2.1), .int (w.2.2.1), .int (w.2.2.2.1)])), (cs, .inl (G.2.1 3, 6, .inr (.inr (.inr (.inr (f))))))]) F (hE.at hfr hS) hfr (mt_X8_text l G q_30 (fn_X8_taken ((0 : Int32)) ((w.2.2.2.2) (nI (k9)).toNatClampNeg)) H.size ) kv_X9_173 ⟨⟨rfl, rfl⟩, Nat.le_of_ble_eq_true rfl, Nat.le_of_ble_eq_true rfl⟩ rfl hl.1 rfl (Nat.le_of_ble_eq_true rfl) ⟨by show (_ : Nat) ≤ 488; omega, by show (_ : Nat) ≤ 10184; omega⟩ (va_recv hE.1 hI_30 (ci := 4) (q0 := 0) rfl rfl) hI_30 hP hD hS hA [] [0, 1] rfl rfl (by decide) (by decide) (by decide) dc_X9_digest_191 ?_
        rintro v9 ⟨z_31, y_31, n_31, g_31⟩ H locs ⟨rfl, hn_31, hg_31⟩ hP hD hS - hz hk9
        have hP : va_P G.1 kcl [(mo, .inr (5, [.int (w.1), .ref cs, .int (w.2.1), .int (w.2.2.1), .int (w.2.2.2.1)])), (cs, .inl (G.2.1 3, 6, .inr (.inr (.inr (.inr (f)))))), (z_31, .inr (7, [.ref y_31, .int (0), .int (0), .int (0)])), (y_31, .inl (G.2.1 0, n_31, .inl (g_31)))] H := hP
        have hD : va_D A [(mo, .inr (5, [.int (w.1), .ref cs, .int (w.2.1), .int (w.2.2.1), .int (w.2.2.2.1)])), (cs, .inl (G.2.1 3, 6, .inr (.inr (.inr (.inr (f)))))), (z_31, .inr (7, [.ref y_31, .int (0), .int (0), .int (0)])), (y_31, .inl (G.2.1 0, n_31, .inl (g_31)))] := hD
        refine W.widen (k := 4 + 78 * k9 + 8 + 6 + 6 + 1 + 8) (n := 16 + 1630 * k9 + 194 + 126 + 126 + 2 + 194) (by first | exact Nat.le_refl _ | omega) (by first | exact Nat.le_refl _ | omega) ?_
        refine ky_cSh (As := [.long (j_28), .ref z_31]) (wr := [(mo, .inr (5, [.int (w.1), .ref cs, .int (w.2.1), .int (w.2.2.1), .int (w.2.2.2.1)])), (cs, .inl (G.2.1 3, 6, .inr (.inr (.inr (.inr (f))))))]) F (hE.at hfr hS) hfr (mt_X9_add_ l G z_31 y_31 n_31 g_31 j_28 H.size ) ks_X9_273 ⟨⟨rfl, rfl⟩, Nat.le_of_ble_eq_true rfl, Nat.le_of_ble_eq_true rfl⟩ rfl hl.1 rfl (Nat.le_of_ble_eq_true rfl) ⟨by show (_ : Nat) ≤ 488; omega, by show (_ : Nat) ≤ 10184; omega⟩ trivial hP hD hS hA [2, 3] [0, 1] rfl rfl (by decide) (by decide) (by decide) dc_X9_digest_194 ?_
        rintro v9 u9 H locs ⟨r_32, rfl⟩ hP hD hS - hz hk9
        have hP : va_P G.1 kcl [(mo, .inr (5, [.int (w.1), .ref cs, .int (w.2.1), .int (w.2.2.1), .int (w.2.2.2.1)])), (cs, .inl (G.2.1 3, 6, .inr (.inr (.inr (.inr (f)))))), (z_31, .inr (7, [.ref y_31, .int (0), .int (0), .int (0)])), (y_31, .inl (G.2.1 0, n_31, .inl (g_31)))] H := hP
        have hD : va_D A [(mo, .inr (5, [.int (w.1), .ref cs, .int (w.2.1), .int (w.2.2.1), .int (w.2.2.2.1)])), (cs, .inl (G.2.1 3, 6, .inr (.inr (.inr (.inr (f)))))), (z_31, .inr (7, [.ref y_31, .int (0), .int (0), .int (0)])), (y_31, .inl (G.2.1 0, n_31, .inl (g_31)))] := hD
        refine W.widen (k := 4 + 78 * k9 + 8 + 6 + 6 + 1 + 8) (n := 16 + 1630 * k9 + 194 + 126 + 126 + 2 + 194) (by first | exact Nat.le_refl _ | omega) (by first | exact Nat.le_refl _ | omega) ?_
        have hP := hP.sub (ws' := [(mo, .inr (5, [.int (w.1), .ref cs, .int (w.2.1), .int (w.2.2.1), .int (w.2.2.2.1)])), (cs, .inl (G.2.1 3, 6, .inr (.inr (.inr (.inr (f))))))]) [0, 1] rfl
        have hD := hD.sub (ws' := [(mo, .inr (5, [.int (w.1), .ref cs, .int (w.2.1), .int (w.2.2.1), .int (w.2.2.2.1)])), (cs, .inl (G.2.1 3, 6, .inr (.inr (.inr (.inr (f))))))]) [0, 1] (by decide) rfl
        refine lv_lstore_n (lv' := [(1, .long (r_32)), (5, .int ((0 : Int32))), (4, .ref b_1), (0, .ref mo), (3, .int (nI (k9)))]) hx hb dc_X9_digest_197 rfl hl (by decide) rfl (fun ls hl => ?_)
        refine lv_iinc (v := (1 : Int32)) (lv' := [(5, .int ((1 : Int32))), (1, .long (r_32)), (4, .ref b_1), (0, .ref mo), (3, .int (nI (k9)))]) hx hb dc_X9_digest_198 hl (k := 1) rfl (by decide) (by decide) rfl (fun ls hl => ?_)
        refine lv_goto (tgt := 177) hx hb dc_X9_digest_201 (by decide) ?_
        refine lv_iload hx hb dc_X9_digest_177 (lv_at hl 0 rfl) ?_
        refine lv_iconst (v := 3) hx hb dc_X9_digest_179 (by decide) ?_
        refine lv_icmp_ge (tgt := 204) hx hb dc_X9_digest_180 (by decide) (fun c_33 => absurd c_33 (by decide)) (fun _ => ?_)
        refine lv_lload_n hx hb dc_X9_digest_183 rfl (lv_at hl 1 rfl) ?_
        refine lv_aload hx hb dc_X9_digest_184 (lv_at hl 2 rfl) ?_
        refine lv_iload hx hb dc_X9_digest_186 (lv_at hl 0 rfl) ?_
        have hI_1 := ky_ro2 hX_1 ho_1 hAe hS
        have hI_1 := ky_ro2 hX_1 ho_1 hAe hS
        have hs_34 := hS.1
        refine ky_cVh (As := [.int ((1 : Int32))]) (wr := [(mo, .inr (5, [.int (w.1), .ref cs, .int (w.2.1), .int (w.2.2.1), .int (w.2.2.2.1)])), (cs, .inl (G.2.1 3, 6, .inr (.inr (.inr (.inr (f))))))]) F (hE.at hfr hS) hfr (mt_X8_taken l G (b_1) ((w.2.2.2.2) (nI (k9)).toNatClampNeg) ((1 : Int32)) H.size (ok_X8_taken _ _)) kv_X9_108 ⟨⟨rfl, rfl⟩, by decide, by decide⟩ rfl hl.1 rfl (Nat.le_of_ble_eq_true rfl) ⟨by show (_ : Nat) ≤ 488; omega, by show (_ : Nat) ≤ 10184; omega⟩ (va_recv hE.1 hI_1 (ci := 4) (q0 := 0) rfl rfl) hI_1 hP hD hS hA [] [0, 1] rfl rfl (by decide) (by decide) (by decide) dc_X9_digest_188 ?_
        rintro v9 q_34 H locs rfl hP hD hS ⟨hI_34, hd_34⟩ hz hk9
        have hP : va_P G.1 kcl [(mo, .inr (5, [.int (w.1), .ref cs, .int (w.2.1), .int (w.2.2.1), .int (w.2.2.2.1)])), (cs, .inl (G.2.1 3, 6, .inr (.inr (.inr (.inr (f))))))] H := hP
        have hD : va_D A [(mo, .inr (5, [.int (w.1), .ref cs, .int (w.2.1), .int (w.2.2.1), .int (w.2.2.2.1)])), (cs, .inl (G.2.1 3, 6, .inr (.inr (.inr (.inr (f))))))] := hD
        have hI_1 := hI_1.fr hk9
        refine W.widen (k := 4 + 78 * k9 + 8 + 6 + 6 + 1 + 8 + 1) (n := 16 + 1630 * k9 + 194 + 126 + 126 + 2 + 194 + 2) (Nat.le_refl _) (Nat.le_refl _) ?_
        refine ky_cVh (As := []) (wr := [(mo, .inr (5, [.int (w.1), .ref cs, .int (w.2.1), .int (w.2.2.1), .int (w.2.2.2.1)])), (cs, .inl (G.2.1 3, 6, .inr (.inr (.inr (.inr (f))))))]) F (hE.at hfr hS) hfr (mt_X8_text l G q_34 (fn_X8_taken ((1 : Int32)) ((w.2.2.2.2) (nI (k9)).toNatClampNeg)) H.size ) kv_X9_173 ⟨⟨rfl, rfl⟩, Nat.le_of_ble_eq_true rfl, Nat.le_of_ble_eq_true rfl⟩ rfl hl.1 rfl (Nat.le_of_ble_eq_true rfl) ⟨by show (_ : Nat) ≤ 488; omega, by show (_ : Nat) ≤ 10184; omega⟩ (va_recv hE.1 hI_34 (ci := 4) (q0 := 0) rfl rfl) hI_34 hP hD hS hA [] [0, 1] rfl rfl (by decide) (by decide) (by decide) dc_X9_digest_191 ?_
        rintro v9 ⟨z_35, y_35, n_35, g_35⟩ H locs ⟨rfl, hn_35, hg_35⟩ hP hD hS - hz hk9
        have hP : va_P G.1 kcl [(mo, .inr (5, [.int (w.1), .ref cs, .int (w.2.1), .int (w.2.2.1), .int (w.2.2.2.1)])), (cs, .inl (G.2.1 3, 6, .inr (.inr (.inr (.inr (f)))))), (z_35, .inr (7, [.ref y_35, .int (0), .int (0), .int (0)])), (y_35, .inl (G.2.1 0, n_35, .inl (g_35)))] H := hP
        have hD : va_D A [(mo, .inr (5, [.int (w.1), .ref cs, .int (w.2.1), .int (w.2.2.1), .int (w.2.2.2.1)])), (cs, .inl (G.2.1 3, 6, .inr (.inr (.inr (.inr (f)))))), (z_35, .inr (7, [.ref y_35, .int (0), .int (0), .int (0)])), (y_35, .inl (G.2.1 0, n_35, .inl (g_35)))] := hD
        refine W.widen (k := 4 + 78 * k9 + 8 + 6 + 6 + 1 + 8 + 1 + 8) (n := 16 + 1630 * k9 + 194 + 126 + 126 + 2 + 194 + 2 + 194) (by first | exact Nat.le_refl _ | omega) (by first | exact Nat.le_refl _ | omega) ?_
        refine ky_cSh (As := [.long (r_32), .ref z_35]) (wr := [(mo, .inr (5, [.int (w.1), .ref cs, .int (w.2.1), .int (w.2.2.1), .int (w.2.2.2.1)])), (cs, .inl (G.2.1 3, 6, .inr (.inr (.inr (.inr (f))))))]) F (hE.at hfr hS) hfr (mt_X9_add_ l G z_35 y_35 n_35 g_35 r_32 H.size ) ks_X9_273 ⟨⟨rfl, rfl⟩, Nat.le_of_ble_eq_true rfl, Nat.le_of_ble_eq_true rfl⟩ rfl hl.1 rfl (Nat.le_of_ble_eq_true rfl) ⟨by show (_ : Nat) ≤ 488; omega, by show (_ : Nat) ≤ 10184; omega⟩ trivial hP hD hS hA [2, 3] [0, 1] rfl rfl (by decide) (by decide) (by decide) dc_X9_digest_194 ?_
        rintro v9 u9 H locs ⟨r_36, rfl⟩ hP hD hS - hz hk9
        have hP : va_P G.1 kcl [(mo, .inr (5, [.int (w.1), .ref cs, .int (w.2.1), .int (w.2.2.1), .int (w.2.2.2.1)])), (cs, .inl (G.2.1 3, 6, .inr (.inr (.inr (.inr (f)))))), (z_35, .inr (7, [.ref y_35, .int (0), .int (0), .int (0)])), (y_35, .inl (G.2.1 0, n_35, .inl (g_35)))] H := hP
        have hD : va_D A [(mo, .inr (5, [.int (w.1), .ref cs, .int (w.2.1), .int (w.2.2.1), .int (w.2.2.2.1)])), (cs, .inl (G.2.1 3, 6, .inr (.inr (.inr (.inr (f)))))), (z_35, .inr (7, [.ref y_35, .int (0), .int (0), .int (0)])), (y_35, .inl (G.2.1 0, n_35, .inl (g_35)))] := hD
        refine W.widen (k := 4 + 78 * k9 + 8 + 6 + 6 + 1 + 8 + 1 + 8) (n := 16 + 1630 * k9 + 194 + 126 + 126 + 2 + 194 + 2 + 194) (by first | exact Nat.le_refl _ | omega) (by first | exact Nat.le_refl _ | omega) ?_
        have hP := hP.sub (ws' := [(mo, .inr (5, [.int (w.1), .ref cs, .int (w.2.1), .int (w.2.2.1), .int (w.2.2.2.1)])), (cs, .inl (G.2.1 3, 6, .inr (.inr (.inr (.inr (f))))))]) [0, 1] rfl
        have hD := hD.sub (ws' := [(mo, .inr (5, [.int (w.1), .ref cs, .int (w.2.1), .int (w.2.2.1), .int (w.2.2.2.1)])), (cs, .inl (G.2.1 3, 6, .inr (.inr (.inr (.inr (f))))))]) [0, 1] (by decide) rfl
        refine lv_lstore_n (lv' := [(1, .long (r_36)), (5, .int ((1 : Int32))), (4, .ref b_1), (0, .ref mo), (3, .int (nI (k9)))]) hx hb dc_X9_digest_197 rfl hl (by decide) rfl (fun ls hl => ?_)
        refine lv_iinc (v := (2 : Int32)) (lv' := [(5, .int ((2 : Int32))), (1, .long (r_36)), (4, .ref b_1), (0, .ref mo), (3, .int (nI (k9)))]) hx hb dc_X9_digest_198 hl (k := 1) rfl (by decide) (by decide) rfl (fun ls hl => ?_)
        refine lv_goto (tgt := 177) hx hb dc_X9_digest_201 (by decide) ?_
        refine lv_iload hx hb dc_X9_digest_177 (lv_at hl 0 rfl) ?_
        refine lv_iconst (v := 3) hx hb dc_X9_digest_179 (by decide) ?_
        refine lv_icmp_ge (tgt := 204) hx hb dc_X9_digest_180 (by decide) (fun c_37 => absurd c_37 (by decide)) (fun _ => ?_)
        refine lv_lload_n hx hb dc_X9_digest_183 rfl (lv_at hl 1 rfl) ?_
        refine lv_aload hx hb dc_X9_digest_184 (lv_at hl 2 rfl) ?_
        refine lv_iload hx hb dc_X9_digest_186 (lv_at hl 0 rfl) ?_
        have hI_1 := ky_ro2 hX_1 ho_1 hAe hS
        have hI_1 := ky_ro2 hX_1 ho_1 hAe hS
        have hs_38 := hS.1
        refine ky_cVh (As := [.int ((2 : Int32))]) (wr := [(mo, .inr (5, [.int (w.1), .ref cs, .int (w.2.1), .int (w.2.2.1), .int (w.2.2.2.1)])), (cs, .inl (G.2.1 3, 6, .inr (.inr (.inr (.inr (f))))))]) F (hE.at hfr hS) hfr (mt_X8_taken l G (b_1) ((w.2.2.2.2) (nI (k9)).toNatClampNeg) ((2 : Int32)) H.size (ok_X8_taken _ _)) kv_X9_108 ⟨⟨rfl, rfl⟩, by decide, by decide⟩ rfl hl.1 rfl (Nat.le_of_ble_eq_true rfl) ⟨by show (_ : Nat) ≤ 488; omega, by show (_ : Nat) ≤ 10184; omega⟩ (va_recv hE.1 hI_1 (ci := 4) (q0 := 0) rfl rfl) hI_1 hP hD hS hA [] [0, 1] rfl rfl (by decide) (by decide) (by decide) dc_X9_digest_188 ?_
        rintro v9 q_38 H locs rfl hP hD hS ⟨hI_38, hd_38⟩ hz hk9
        have hP : va_P G.1 kcl [(mo, .inr (5, [.int (w.1), .ref cs, .int (w.2.1), .int (w.2.2.1), .int (w.2.2.2.1)])), (cs, .inl (G.2.1 3, 6, .inr (.inr (.inr (.inr (f))))))] H := hP
        have hD : va_D A [(mo, .inr (5, [.int (w.1), .ref cs, .int (w.2.1), .int (w.2.2.1), .int (w.2.2.2.1)])), (cs, .inl (G.2.1 3, 6, .inr (.inr (.inr (.inr (f))))))] := hD
        have hI_1 := hI_1.fr hk9
        refine W.widen (k := 4 + 78 * k9 + 8 + 6 + 6 + 1 + 8 + 1 + 8 + 1) (n := 16 + 1630 * k9 + 194 + 126 + 126 + 2 + 194 + 2 + 194 + 2) (Nat.le_refl _) (Nat.le_refl _) ?_
        refine ky_cVh (As := []) (wr := [(mo, .inr (5, [.int (w.1), .ref cs, .int (w.2.1), .int (w.2.2.1), .int (w.2.2.2.1)])), (cs, .inl (G.2.1 3, 6, .inr (.inr (.inr (.inr (f))))))]) F (hE.at hfr hS) hfr (mt_X8_text l G q_38 (fn_X8_taken ((2 : Int32)) ((w.2.2.2.2) (nI (k9)).toNatClampNeg)) H.size ) kv_X9_173 ⟨⟨rfl, rfl⟩, Nat.le_of_ble_eq_true rfl, Nat.le_of_ble_eq_true rfl⟩ rfl hl.1 rfl (Nat.le_of_ble_eq_true rfl) ⟨by show (_ : Nat) ≤ 488; omega, by show (_ : Nat) ≤ 10184; omega⟩ (va_recv hE.1 hI_38 (ci := 4) (q0 := 0) rfl rfl) hI_38 hP hD hS hA [] [0, 1] rfl rfl (by decide) (by decide) (by decide) dc_X9_digest_191 ?_
        rintro v9 ⟨z_39, y_39, n_39, g_39⟩ H locs ⟨rfl, hn_39, hg_39⟩ hP hD hS - hz hk9
        have hP : va_P G.1 kcl [(mo, .inr (5, [.int (w.1), .ref cs, .int (w.2.1), .int (w.2.2.1), .int (w.2.2.2.1)])), (cs, .inl (G.2.1 3, 6, .inr (.inr (.inr (.inr (f)))))), (z_39, .inr (7, [.ref y_39, .int (0), .int (0), .int (0)])), (y_39, .inl (G.2.1 0, n_39, .inl (g_39)))] H := hP
        have hD : va_D A [(mo, .inr (5, [.int (w.1), .ref cs, .int (w.2.1), .int (w.2.2.1), .int (w.2.2.2.1)])), (cs, .inl (G.2.1 3, 6, .inr (.inr (.inr (.inr (f)))))), (z_39, .inr (7, [.ref y_39, .int (0), .int (0), .int (0)])), (y_39, .inl (G.2.1 0, n_39, .inl (g_39)))] := hD
        refine W.widen (k := 4 + 78 * k9 + 8 + 6 + 6 + 1 + 8 + 1 + 8 + 1 + 8) (n := 16 + 1630 * k9 + 194 + 126 + 126 + 2 + 194 + 2 + 194 + 2 + 194) (by first | exact Nat.le_refl _ | omega) (by first | exact Nat.le_refl _ | omega) ?_
        refine ky_cSh (As := [.long (r_36), .ref z_39]) (wr := [(mo, .inr (5, [.int (w.1), .ref cs, .int (w.2.1), .int (w.2.2.1), .int (w.2.2.2.1)])), (cs, .inl (G.2.1 3, 6, .inr (.inr (.inr (.inr (f))))))]) F (hE.at hfr hS) hfr (mt_X9_add_ l G z_39 y_39 n_39 g_39 r_36 H.size ) ks_X9_273 ⟨⟨rfl, rfl⟩, Nat.le_of_ble_eq_true rfl, Nat.le_of_ble_eq_true rfl⟩ rfl hl.1 rfl (Nat.le_of_ble_eq_true rfl) ⟨by show (_ : Nat) ≤ 488; omega, by show (_ : Nat) ≤ 10184; omega⟩ trivial hP hD hS hA [2, 3] [0, 1] rfl rfl (by decide) (by decide) (by decide) dc_X9_digest_194 ?_
        rintro v9 u9 H locs ⟨r_40, rfl⟩ hP hD hS - hz hk9
        have hP : va_P G.1 kcl [(mo, .inr (5, [.int (w.1), .ref cs, .int (w.2.1), .int (w.2.2.1), .int (w.2.2.2.1)])), (cs, .inl (G.2.1 3, 6, .inr (.inr (.inr (.inr (f)))))), (z_39, .inr (7, [.ref y_39, .int (0), .int (0), .int (0)])), (y_39, .inl (G.2.1 0, n_39, .inl (g_39)))] H := hP
        have hD : va_D A [(mo, .inr (5, [.int (w.1), .ref cs, .int (w.2.1), .int (w.2.2.1), .int (w.2.2.2.1)])), (cs, .inl (G.2.1 3, 6, .inr (.inr (.inr (.inr (f)))))), (z_39, .inr (7, [.ref y_39, .int (0), .int (0), .int (0)])), (y_39, .inl (G.2.1 0, n_39, .inl (g_39)))] := hD
        refine W.widen (k := 4 + 78 * k9 + 8 + 6 + 6 + 1 + 8 + 1 + 8 + 1 + 8) (n := 16 + 1630 * k9 + 194 + 126 + 126 + 2 + 194 + 2 + 194 + 2 + 194) (by first | exact Nat.le_refl _ | omega) (by first | exact Nat.le_refl _ | omega) ?_
        have hP := hP.sub (ws' := [(mo, .inr (5, [.int (w.1), .ref cs, .int (w.2.1), .int (w.2.2.1), .int (w.2.2.2.1)])), (cs, .inl (G.2.1 3, 6, .inr (.inr (.inr (.inr (f))))))]) [0, 1] rfl
        have hD := hD.sub (ws' := [(mo, .inr (5, [.int (w.1), .ref cs, .int (w.2.1), .int (w.2.2.1), .int (w.2.2.2.1)])), (cs, .inl (G.2.1 3, 6, .inr (.inr (.inr (.inr (f))))))]) [0, 1] (by decide) rfl
        refine lv_lstore_n (lv' := [(1, .long (r_40)), (5, .int ((2 : Int32))), (4, .ref b_1), (0, .ref mo), (3, .int (nI (k9)))]) hx hb dc_X9_digest_197 rfl hl (by decide) rfl (fun ls hl => ?_)
        refine lv_iinc (v := (3 : Int32)) (lv' := [(5, .int ((3 : Int32))), (1, .long (r_40)), (4, .ref b_1), (0, .ref mo), (3, .int (nI (k9)))]) hx hb dc_X9_digest_198 hl (k := 1) rfl (by decide) (by decide) rfl (fun ls hl => ?_)
        refine lv_goto (tgt := 177) hx hb dc_X9_digest_201 (by decide) ?_
        refine lv_iload hx hb dc_X9_digest_177 (lv_at hl 0 rfl) ?_
        refine lv_iconst (v := 3) hx hb dc_X9_digest_179 (by decide) ?_
        refine lv_icmp_ge (tgt := 204) hx hb dc_X9_digest_180 (by decide) (fun _ => ?_) (fun c_41 => absurd c_41 (by decide))
        refine lv_lload_n hx hb dc_X9_digest_204 rfl (lv_at hl 1 rfl) ?_
        refine lv_aload hx hb dc_X9_digest_205 (lv_at hl 2 rfl) ?_
        have hI_1 := ky_ro2 hX_1 ho_1 hAe hS
        have hI_1 := ky_ro2 hX_1 ho_1 hAe hS
        have hs_42 := hS.1
        refine ky_cVh (As := []) (wr := [(mo, .inr (5, [.int (w.1), .ref cs, .int (w.2.1), .int (w.2.2.1), .int (w.2.2.2.1)])), (cs, .inl (G.2.1 3, 6, .inr (.inr (.inr (.inr (f))))))]) F (hE.at hfr hS) hfr (mt_X8_step l G (b_1) ((w.2.2.2.2) (nI (k9)).toNatClampNeg)  H.size (ok_X8_step _)) kv_X9_134 ⟨⟨rfl, rfl⟩, by decide, by decide⟩ rfl hl.1 rfl (Nat.le_of_ble_eq_true rfl) ⟨by show (_ : Nat) ≤ 488; omega, by show (_ : Nat) ≤ 10184; omega⟩ (va_recv hE.1 hI_1 (ci := 4) (q0 := 0) rfl rfl) hI_1 hP hD hS hA [] [0, 1] rfl rfl (by decide) (by decide) (by decide) dc_X9_digest_207 ?_
        rintro v9 q_42 H locs rfl hP hD hS ⟨hI_42, hd_42⟩ hz hk9
        have hP : va_P G.1 kcl [(mo, .inr (5, [.int (w.1), .ref cs, .int (w.2.1), .int (w.2.2.1), .int (w.2.2.2.1)])), (cs, .inl (G.2.1 3, 6, .inr (.inr (.inr (.inr (f))))))] H := hP
        have hD : va_D A [(mo, .inr (5, [.int (w.1), .ref cs, .int (w.2.1), .int (w.2.2.1), .int (w.2.2.2.1)])), (cs, .inl (G.2.1 3, 6, .inr (.inr (.inr (.inr (f))))))] := hD
        have hI_1 := hI_1.fr hk9
        refine W.widen (k := 4 + 78 * k9 + 8 + 6 + 6 + 1 + 8 + 1 + 8 + 1 + 8 + 1) (n := 16 + 1630 * k9 + 194 + 126 + 126 + 2 + 194 + 2 + 194 + 2 + 194 + 2) (Nat.le_refl _) (Nat.le_refl _) ?_
        refine ky_cVh (As := []) (wr := [(mo, .inr (5, [.int (w.1), .ref cs, .int (w.2.1), .int (w.2.2.1), .int (w.2.2.2.1)])), (cs, .inl (G.2.1 3, 6, .inr (.inr (.inr (.inr (f))))))]) F (hE.at hfr hS) hfr (mt_X8_text l G q_42 (fn_X8_step ((w.2.2.2.2) (nI (k9)).toNatClampNeg)) H.size ) kv_X9_173 ⟨⟨rfl, rfl⟩, Nat.le_of_ble_eq_true rfl, Nat.le_of_ble_eq_true rfl⟩ rfl hl.1 rfl (Nat.le_of_ble_eq_true rfl) ⟨by show (_ : Nat) ≤ 488; omega, by show (_ : Nat) ≤ 10184; omega⟩ (va_recv hE.1 hI_42 (ci := 4) (q0 := 0) rfl rfl) hI_42 hP hD hS hA [] [0, 1] rfl rfl (by decide) (by decide) (by decide) dc_X9_digest_210 ?_
        rintro v9 ⟨z_43, y_43, n_43, g_43⟩ H locs ⟨rfl, hn_43, hg_43⟩ hP hD hS - hz hk9
        have hP : va_P G.1 kcl [(mo, .inr (5, [.int (w.1), .ref cs, .int (w.2.1), .int (w.2.2.1), .int (w.2.2.2.1)])), (cs, .inl (G.2.1 3, 6, .inr (.inr (.inr (.inr (f)))))), (z_43, .inr (7, [.ref y_43, .int (0), .int (0), .int (0)])), (y_43, .inl (G.2.1 0, n_43, .inl (g_43)))] H := hP
        have hD : va_D A [(mo, .inr (5, [.int (w.1), .ref cs, .int (w.2.1), .int (w.2.2.1), .int (w.2.2.2.1)])), (cs, .inl (G.2.1 3, 6, .inr (.inr (.inr (.inr (f)))))), (z_43, .inr (7, [.ref y_43, .int (0), .int (0), .int (0)])), (y_43, .inl (G.2.1 0, n_43, .inl (g_43)))] := hD
        refine W.widen (k := 4 + 78 * k9 + 8 + 6 + 6 + 1 + 8 + 1 + 8 + 1 + 8 + 1 + 8) (n := 16 + 1630 * k9 + 194 + 126 + 126 + 2 + 194 + 2 + 194 + 2 + 194 + 2 + 194) (by first | exact Nat.le_refl _ | omega) (by first | exact Nat.le_refl _ | omega) ?_
        refine ky_cSh (As := [.long (r_40), .ref z_43]) (wr := [(mo, .inr (5, [.int (w.1), .ref cs, .int (w.2.1), .int (w.2.2.1), .int (w.2.2.2.1)])), (cs, .inl (G.2.1 3, 6, .inr (.inr (.inr (.inr (f))))))]) F (hE.at hfr hS) hfr (mt_X9_add_ l G z_43 y_43 n_43 g_43 r_40 H.size ) ks_X9_273 ⟨⟨rfl, rfl⟩, Nat.le_of_ble_eq_true rfl, Nat.le_of_ble_eq_true rfl⟩ rfl hl.1 rfl (Nat.le_of_ble_eq_true rfl) ⟨by show (_ : Nat) ≤ 488; omega, by show (_ : Nat) ≤ 10184; omega⟩ trivial hP hD hS hA [2, 3] [0, 1] rfl rfl (by decide) (by decide) (by decide) dc_X9_digest_213 ?_
        rintro v9 u9 H locs ⟨r_44, rfl⟩ hP hD hS - hz hk9
        have hP : va_P G.1 kcl [(mo, .inr (5, [.int (w.1), .ref cs, .int (w.2.1), .int (w.2.2.1), .int (w.2.2.2.1)])), (cs, .inl (G.2.1 3, 6, .inr (.inr (.inr (.inr (f)))))), (z_43, .inr (7, [.ref y_43, .int (0), .int (0), .int (0)])), (y_43, .inl (G.2.1 0, n_43, .inl (g_43)))] H := hP
        have hD : va_D A [(mo, .inr (5, [.int (w.1), .ref cs, .int (w.2.1), .int (w.2.2.1), .int (w.2.2.2.1)])), (cs, .inl (G.2.1 3, 6, .inr (.inr (.inr (.inr (f)))))), (z_43, .inr (7, [.ref y_43, .int (0), .int (0), .int (0)])), (y_43, .inl (G.2.1 0, n_43, .inl (g_43)))] := hD
        refine W.widen (k := 4 + 78 * k9 + 8 + 6 + 6 + 1 + 8 + 1 + 8 + 1 + 8 + 1 + 8) (n := 16 + 1630 * k9 + 194 + 126 + 126 + 2 + 194 + 2 + 194 + 2 + 194 + 2 + 194) (by first | exact Nat.le_refl _ | omega) (by first | exact Nat.le_refl _ | omega) ?_
        have hP := hP.sub (ws' := [(mo, .inr (5, [.int (w.1), .ref cs, .int (w.2.1), .int (w.2.2.1), .int (w.2.2.2.1)])), (cs, .inl (G.2.1 3, 6, .inr (.inr (.inr (.inr (f))))))]) [0, 1] rfl
        have hD := hD.sub (ws' := [(mo, .inr (5, [.int (w.1), .ref cs, .int (w.2.1), .int (w.2.2.1), .int (w.2.2.2.1)])), (cs, .inl (G.2.1 3, 6, .inr (.inr (.inr (.inr (f))))))]) [0, 1] (by decide) rfl
        refine lv_aload hx hb dc_X9_digest_216 (lv_at hl 2 rfl) ?_
        refine lv_iconst (v := 0) hx hb dc_X9_digest_218 (by decide) ?_
        have hI_1 := ky_ro2 hX_1 ho_1 hAe hS
        have hI_1 := ky_ro2 hX_1 ho_1 hAe hS
        have hs_45 := hS.1
        refine ky_cVh (As := [.int ((0 : Int32))]) (wr := [(mo, .inr (5, [.int (w.1), .ref cs, .int (w.2.1), .int (w.2.2.1), .int (w.2.2.2.1)])), (cs, .inl (G.2.1 3, 6, .inr (.inr (.inr (.inr (f))))))]) F (hE.at hfr hS) hfr (mt_X8_next l G (b_1) ((w.2.2.2.2) (nI (k9)).toNatClampNeg) ((0 : Int32)) H.size) kv_X9_130 ⟨⟨rfl, rfl⟩, by decide, by decide⟩ rfl hl.1 rfl (Nat.le_of_ble_eq_true rfl) ⟨by show (_ : Nat) ≤ 488; omega, by show (_ : Nat) ≤ 10184; omega⟩ (va_recv hE.1 hI_1 (ci := 4) (q0 := 0) rfl rfl) hI_1 hP hD hS hA [] [0, 1] rfl rfl (by decide) (by decide) (by decide) dc_X9_digest_219 ?_
        rintro v9 q_45 H locs rfl hP hD hS ⟨hI_45, hd_45⟩ hz hk9
        have hP : va_P G.1 kcl [(mo, .inr (5, [.int (w.1), .ref cs, .int (w.2.1), .int (w.2.2.1), .int (w.2.2.2.1)])), (cs, .inl (G.2.1 3, 6, .inr (.inr (.inr (.inr (f))))))] H := hP
        have hD : va_D A [(mo, .inr (5, [.int (w.1), .ref cs, .int (w.2.1), .int (w.2.2.1), .int (w.2.2.2.1)])), (cs, .inl (G.2.1 3, 6, .inr (.inr (.inr (.inr (f))))))] := hD
        have hI_1 := hI_1.fr hk9
        refine W.widen (k := 4 + 78 * k9 + 8 + 6 + 6 + 1 + 8 + 1 + 8 + 1 + 8 + 1 + 8 + 3) (n := 16 + 1630 * k9 + 194 + 126 + 126 + 2 + 194 + 2 + 194 + 2 + 194 + 2 + 194 + 6) (Nat.le_refl _) (Nat.le_refl _) ?_
        refine ky_cVh (As := []) (wr := [(mo, .inr (5, [.int (w.1), .ref cs, .int (w.2.1), .int (w.2.2.1), .int (w.2.2.2.1)])), (cs, .inl (G.2.1 3, 6, .inr (.inr (.inr (.inr (f))))))]) F (hE.at hfr hS) hfr (mt_X8_text l G q_45 (fn_X8_next ((0 : Int32)) ((w.2.2.2.2) (nI (k9)).toNatClampNeg)) H.size ) kv_X9_173 ⟨⟨rfl, rfl⟩, Nat.le_of_ble_eq_true rfl, Nat.le_of_ble_eq_true rfl⟩ rfl hl.1 rfl (Nat.le_of_ble_eq_true rfl) ⟨by show (_ : Nat) ≤ 488; omega, by show (_ : Nat) ≤ 10184; omega⟩ (va_recv hE.1 hI_45 (ci := 4) (q0 := 0) rfl rfl) hI_45 hP hD hS hA [] [0, 1] rfl rfl (by decide) (by decide) (by decide) dc_X9_digest_222 ?_
        rintro v9 ⟨z_46, y_46, n_46, g_46⟩ H locs ⟨rfl, hn_46, hg_46⟩ hP hD hS - hz hk9
        have hP : va_P G.1 kcl [(mo, .inr (5, [.int (w.1), .ref cs, .int (w.2.1), .int (w.2.2.1), .int (w.2.2.2.1)])), (cs, .inl (G.2.1 3, 6, .inr (.inr (.inr (.inr (f)))))), (z_46, .inr (7, [.ref y_46, .int (0), .int (0), .int (0)])), (y_46, .inl (G.2.1 0, n_46, .inl (g_46)))] H := hP
        have hD : va_D A [(mo, .inr (5, [.int (w.1), .ref cs, .int (w.2.1), .int (w.2.2.1), .int (w.2.2.2.1)])), (cs, .inl (G.2.1 3, 6, .inr (.inr (.inr (.inr (f)))))), (z_46, .inr (7, [.ref y_46, .int (0), .int (0), .int (0)])), (y_46, .inl (G.2.1 0, n_46, .inl (g_46)))] := hD
        refine W.widen (k := 4 + 78 * k9 + 8 + 6 + 6 + 1 + 8 + 1 + 8 + 1 + 8 + 1 + 8 + 3 + 8) (n := 16 + 1630 * k9 + 194 + 126 + 126 + 2 + 194 + 2 + 194 + 2 + 194 + 2 + 194 + 6 + 194) (by first | exact Nat.le_refl _ | omega) (by first | exact Nat.le_refl _ | omega) ?_
        refine ky_cSh (As := [.long (r_44), .ref z_46]) (wr := [(mo, .inr (5, [.int (w.1), .ref cs, .int (w.2.1), .int (w.2.2.1), .int (w.2.2.2.1)])), (cs, .inl (G.2.1 3, 6, .inr (.inr (.inr (.inr (f))))))]) F (hE.at hfr hS) hfr (mt_X9_add_ l G z_46 y_46 n_46 g_46 r_44 H.size ) ks_X9_273 ⟨⟨rfl, rfl⟩, Nat.le_of_ble_eq_true rfl, Nat.le_of_ble_eq_true rfl⟩ rfl hl.1 rfl (Nat.le_of_ble_eq_true rfl) ⟨by show (_ : Nat) ≤ 488; omega, by show (_ : Nat) ≤ 10184; omega⟩ trivial hP hD hS hA [2, 3] [0, 1] rfl rfl (by decide) (by decide) (by decide) dc_X9_digest_225 ?_
        rintro v9 u9 H locs ⟨r_47, rfl⟩ hP hD hS - hz hk9
        have hP : va_P G.1 kcl [(mo, .inr (5, [.int (w.1), .ref cs, .int (w.2.1), .int (w.2.2.1), .int (w.2.2.2.1)])), (cs, .inl (G.2.1 3, 6, .inr (.inr (.inr (.inr (f)))))), (z_46, .inr (7, [.ref y_46, .int (0), .int (0), .int (0)])), (y_46, .inl (G.2.1 0, n_46, .inl (g_46)))] H := hP
        have hD : va_D A [(mo, .inr (5, [.int (w.1), .ref cs, .int (w.2.1), .int (w.2.2.1), .int (w.2.2.2.1)])), (cs, .inl (G.2.1 3, 6, .inr (.inr (.inr (.inr (f)))))), (z_46, .inr (7, [.ref y_46, .int (0), .int (0), .int (0)])), (y_46, .inl (G.2.1 0, n_46, .inl (g_46)))] := hD
        refine W.widen (k := 4 + 78 * k9 + 8 + 6 + 6 + 1 + 8 + 1 + 8 + 1 + 8 + 1 + 8 + 3 + 8) (n := 16 + 1630 * k9 + 194 + 126 + 126 + 2 + 194 + 2 + 194 + 2 + 194 + 2 + 194 + 6 + 194) (by first | exact Nat.le_refl _ | omega) (by first | exact Nat.le_refl _ | omega) ?_
        have hP := hP.sub (ws' := [(mo, .inr (5, [.int (w.1), .ref cs, .int (w.2.1), .int (w.2.2.1), .int (w.2.2.2.1)])), (cs, .inl (G.2.1 3, 6, .inr (.inr (.inr (.inr (f))))))]) [0, 1] rfl
        have hD := hD.sub (ws' := [(mo, .inr (5, [.int (w.1), .ref cs, .int (w.2.1), .int (w.2.2.1), .int (w.2.2.2.1)])), (cs, .inl (G.2.1 3, 6, .inr (.inr (.inr (.inr (f))))))]) [0, 1] (by decide) rfl
        refine lv_aload hx hb dc_X9_digest_228 (lv_at hl 2 rfl) ?_
        refine lv_iconst (v := 1) hx hb dc_X9_digest_230 (by decide) ?_
        have hI_1 := ky_ro2 hX_1 ho_1 hAe hS
        have hI_1 := ky_ro2 hX_1 ho_1 hAe hS
        have hs_48 := hS.1
        refine ky_cVh (As := [.int ((1 : Int32))]) (wr := [(mo, .inr (5, [.int (w.1), .ref cs, .int (w.2.1), .int (w.2.2.1), .int (w.2.2.2.1)])), (cs, .inl (G.2.1 3, 6, .inr (.inr (.inr (.inr (f))))))]) F (hE.at hfr hS) hfr (mt_X8_next l G (b_1) ((w.2.2.2.2) (nI (k9)).toNatClampNeg) ((1 : Int32)) H.size) kv_X9_130 ⟨⟨rfl, rfl⟩, by decide, by decide⟩ rfl hl.1 rfl (Nat.le_of_ble_eq_true rfl) ⟨by show (_ : Nat) ≤ 488; omega, by show (_ : Nat) ≤ 10184; omega⟩ (va_recv hE.1 hI_1 (ci := 4) (q0 := 0) rfl rfl) hI_1 hP hD hS hA [] [0, 1] rfl rfl (by decide) (by decide) (by decide) dc_X9_digest_231 ?_
        rintro v9 q_48 H locs rfl hP hD hS ⟨hI_48, hd_48⟩ hz hk9
        have hP : va_P G.1 kcl [(mo, .inr (5, [.int (w.1), .ref cs, .int (w.2.1), .int (w.2.2.1), .int (w.2.2.2.1)])), (cs, .inl (G.2.1 3, 6, .inr (.inr (.inr (.inr (f))))))] H := hP
        have hD : va_D A [(mo, .inr (5, [.int (w.1), .ref cs, .int (w.2.1), .int (w.2.2.1), .int (w.2.2.2.1)])), (cs, .inl (G.2.1 3, 6, .inr (.inr (.inr (.inr (f))))))] := hD
        have hI_1 := hI_1.fr hk9
        refine W.widen (k := 4 + 78 * k9 + 8 + 6 + 6 + 1 + 8 + 1 + 8 + 1 + 8 + 1 + 8 + 3 + 8 + 3) (n := 16 + 1630 * k9 + 194 + 126 + 126 + 2 + 194 + 2 + 194 + 2 + 194 + 2 + 194 + 6 + 194 + 6) (Nat.le_refl _) (Nat.le_refl _) ?_
        refine ky_cVh (As := []) (wr := [(mo, .inr (5, [.int (w.1), .ref cs, .int (w.2.1), .int (w.2.2.1), .int (w.2.2.2.1)])), (cs, .inl (G.2.1 3, 6, .inr (.inr (.inr (.inr (f))))))]) F (hE.at hfr hS) hfr (mt_X8_text l G q_48 (fn_X8_next ((1 : Int32)) ((w.2.2.2.2) (nI (k9)).toNatClampNeg)) H.size ) kv_X9_173 ⟨⟨rfl, rfl⟩, Nat.le_of_ble_eq_true rfl, Nat.le_of_ble_eq_true rfl⟩ rfl hl.1 rfl (Nat.le_of_ble_eq_true rfl) ⟨by show (_ : Nat) ≤ 488; omega, by show (_ : Nat) ≤ 10184; omega⟩ (va_recv hE.1 hI_48 (ci := 4) (q0 := 0) rfl rfl) hI_48 hP hD hS hA [] [0, 1] rfl rfl (by decide) (by decide) (by decide) dc_X9_digest_234 ?_
        rintro v9 ⟨z_49, y_49, n_49, g_49⟩ H locs ⟨rfl, hn_49, hg_49⟩ hP hD hS - hz hk9
        have hP : va_P G.1 kcl [(mo, .inr (5, [.int (w.1), .ref cs, .int (w.2.1), .int (w.2.2.1), .int (w.2.2.2.1)])), (cs, .inl (G.2.1 3, 6, .inr (.inr (.inr (.inr (f)))))), (z_49, .inr (7, [.ref y_49, .int (0), .int (0), .int (0)])), (y_49, .inl (G.2.1 0, n_49, .inl (g_49)))] H := hP
        have hD : va_D A [(mo, .inr (5, [.int (w.1), .ref cs, .int (w.2.1), .int (w.2.2.1), .int (w.2.2.2.1)])), (cs, .inl (G.2.1 3, 6, .inr (.inr (.inr (.inr (f)))))), (z_49, .inr (7, [.ref y_49, .int (0), .int (0), .int (0)])), (y_49, .inl (G.2.1 0, n_49, .inl (g_49)))] := hD
        refine W.widen (k := 4 + 78 * k9 + 8 + 6 + 6 + 1 + 8 + 1 + 8 + 1 + 8 + 1 + 8 + 3 + 8 + 3 + 8) (n := 16 + 1630 * k9 + 194 + 126 + 126 + 2 + 194 + 2 + 194 + 2 + 194 + 2 + 194 + 6 + 194 + 6 + 194) (by first | exact Nat.le_refl _ | omega) (by first | exact Nat.le_refl _ | omega) ?_
        refine ky_cSh (As := [.long (r_47), .ref z_49]) (wr := [(mo, .inr (5, [.int (w.1), .ref cs, .int (w.2.1), .int (w.2.2.1), .int (w.2.2.2.1)])), (cs, .inl (G.2.1 3, 6, .inr (.inr (.inr (.inr (f))))))]) F (hE.at hfr hS) hfr (mt_X9_add_ l G z_49 y_49 n_49 g_49 r_47 H.size ) ks_X9_273 ⟨⟨rfl, rfl⟩, Nat.le_of_ble_eq_true rfl, Nat.le_of_ble_eq_true rfl⟩ rfl hl.1 rfl (Nat.le_of_ble_eq_true rfl) ⟨by show (_ : Nat) ≤ 488; omega, by show (_ : Nat) ≤ 10184; omega⟩ trivial hP hD hS hA [2, 3] [0, 1] rfl rfl (by decide) (by decide) (by decide) dc_X9_digest_237 ?_
        rintro v9 u9 H locs ⟨r_50, rfl⟩ hP hD hS - hz hk9
        have hP : va_P G.1 kcl [(mo, .inr (5, [.int (w.1), .ref cs, .int (w.2.1), .int (w.2.2.1), .int (w.2.2.2.1)])), (cs, .inl (G.2.1 3, 6, .inr (.inr (.inr (.inr (f)))))), (z_49, .inr (7, [.ref y_49, .int (0), .int (0), .int (0)])), (y_49, .inl (G.2.1 0, n_49, .inl (g_49)))] H := hP
        have hD : va_D A [(mo, .inr (5, [.int (w.1), .ref cs, .int (w.2.1), .int (w.2.2.1), .int (w.2.2.2.1)])), (cs, .inl (G.2.1 3, 6, .inr (.inr (.inr (.inr (f)))))), (z_49, .inr (7, [.ref y_49, .int (0), .int (0), .int (0)])), (y_49, .inl (G.2.1 0, n_49, .inl (g_49)))] := hD
        refine W.widen (k := 4 + 78 * k9 + 8 + 6 + 6 + 1 + 8 + 1 + 8 + 1 + 8 + 1 + 8 + 3 + 8 + 3 + 8) (n := 16 + 1630 * k9 + 194 + 126 + 126 + 2 + 194 + 2 + 194 + 2 + 194 + 2 + 194 + 6 + 194 + 6 + 194) (by first | exact Nat.le_refl _ | omega) (by first | exact Nat.le_refl _ | omega) ?_
        have hP := hP.sub (ws' := [(mo, .inr (5, [.int (w.1), .ref cs, .int (w.2.1), .int (w.2.2.1), .int (w.2.2.2.1)])), (cs, .inl (G.2.1 3, 6, .inr (.inr (.inr (.inr (f))))))]) [0, 1] rfl
        have hD := hD.sub (ws' := [(mo, .inr (5, [.int (w.1), .ref cs, .int (w.2.1), .int (w.2.2.1), .int (w.2.2.2.1)])), (cs, .inl (G.2.1 3, 6, .inr (.inr (.inr (.inr (f))))))]) [0, 1] (by decide) rfl
        refine lv_lstore_n (lv' := [(1, .long (r_50)), (5, .int ((3 : Int32))), (4, .ref b_1), (0, .ref mo), (3, .int (nI (k9)))]) hx hb dc_X9_digest_240 rfl hl (by decide) rfl (fun ls hl => ?_)
        refine lv_iinc (v := nI (k9 + 1)) (lv' := [(3, .int (nI (k9 + 1))), (1, .long (r_50)), (5, .int ((3 : Int32))), (4, .ref b_1), (0, .ref mo)]) hx hb dc_X9_digest_241 hl (k := 4) rfl (nI_1 _) (by decide) rfl (fun ls hl => ?_)
        refine lv_goto (tgt := 30) hx hb dc_X9_digest_244 (by decide) ?_
        refine W.widen (k := 4 + 78 * (k9 + 1)) (n := 16 + 1630 * (k9 + 1)) (by first | exact Nat.le_refl _ | omega | exact Nat.zero_le _) (by first | exact Nat.le_refl _ | omega | exact Nat.zero_le _) ?_
        exact ih (k9 + 1) r_50 (by omega) (by omega) _ _ (hP.sub (ws' := [(mo, .inr (5, [.int (w.1), .ref cs, .int (w.2.1), .int (w.2.2.1), .int (w.2.2.2.1)])), (cs, .inl (G.2.1 3, 6, .inr (.inr (.inr (.inr (f))))))]) [0, 1] rfl) (hD.sub (ws' := [(mo, .inr (5, [.int (w.1), .ref cs, .int (w.2.1), .int (w.2.2.1), .int (w.2.2.2.1)])), (cs, .inl (G.2.1 3, 6, .inr (.inr (.inr (.inr (f))))))]) [0, 1] (by decide) rfl) hS  _ (lv_sub hl [4, 1, 0] rfl)
set_option linter.constructorNameAsVariable false in
set_option maxHeartbeats 4000000 in
set_option maxRecDepth 100000 in
theorem mt_X9_digest (l : Launch) (G : ky_G) (mo : Nat) (cs : Nat) (N : Nat → Prop) (w : ky_MV) (f : Nat → Option Nat) (sz : Nat)  : Met l my_X9_digest (.code my_X9_digest prog_10_method_80_code 6 (some .long) :: ky_B) { frames := 8, cells := 488, slots := 10184, locals := 201 } (ky_P G [.ref mo] (ky_WM G mo cs w f) sz (fun H => ky_IT G mo cs N f w.2.2.2.2 H)) (ky_Q (S := Int32) G (va_A (ky_WM G mo cs w f) sz) (fun v _ => ∃ z : Int64, v = some (.long z)) (fun u => ky_WM G mo cs (u, w.2) f) (fun _ H => ky_IT G mo cs N f w.2.2.2.2 H)) (488) (10184) (va_A (ky_WM G mo cs w f) sz) := by
  refine ky_start (by decide) (Nat.le_of_ble_eq_true rfl) (fun p e s m below meth c F hE A hAe hsz hA hfr hP hD hS hX ls hl => ?_)
  obtain ⟨hx, hb, hml, hown, hr, hlocks, hts⟩ := id F
  have hl : lv_has ls 6 [(0, .ref mo)] := hl
  have hP : va_P G.1 kcl [(mo, .inr (5, [.int (w.1), .ref cs, .int (w.2.1), .int (w.2.2.1), .int (w.2.2.2.1)])), (cs, .inl (G.2.1 3, 6, .inr (.inr (.inr (.inr (f))))))] s.heap := hP
  have hD : va_D A [(mo, .inr (5, [.int (w.1), .ref cs, .int (w.2.1), .int (w.2.2.1), .int (w.2.2.2.1)])), (cs, .inl (G.2.1 3, 6, .inr (.inr (.inr (.inr (f))))))] := hD
  have hIT0 := hX
  refine lv_ldc2 (v := 7794) hx hb hown (hts _ kw_8_30) dc_X9_digest_0 ?_
  refine lv_lstore_n (lv' := [(1, .long ((7794 : Int64))), (0, .ref mo)]) hx hb dc_X9_digest_3 rfl hl (by decide) rfl (fun ls hl => ?_)
  refine lv_iconst (v := 0) hx hb dc_X9_digest_4 (by decide) ?_
  refine lv_istore_n (lv' := [(3, .int ((0 : Int32))), (1, .long ((7794 : Int64))), (0, .ref mo)]) hx hb dc_X9_digest_5 rfl hl (by decide) rfl (fun ls hl => ?_)
  refine lv_iload_n hx hb dc_X9_digest_6 rfl (lv_at hl 0 rfl) ?_
  refine lv_iconst (v := 4) hx hb dc_X9_digest_7 (by decide) ?_
  refine lv_icmp_ge (tgt := 28) hx hb dc_X9_digest_8 (by decide) (fun c_0 => absurd c_0 (by decide)) (fun _ => ?_)
  refine lv_lload_n hx hb dc_X9_digest_11 rfl (lv_at hl 1 rfl) ?_
  refine lv_aload_n hx hb dc_X9_digest_12 rfl (lv_at hl 2 rfl) ?_
  refine lv_iload_n hx hb dc_X9_digest_13 rfl (lv_at hl 0 rfl) ?_
  have hIT := hIT0.ro hAe hS
  refine ky_cVh (As := [.int ((0 : Int32))]) (wr := []) F (hE.at hfr hS) hfr (mt_X9_houseNowW l G mo cs N w f (0 : Int32) s.heap.size (vp_in_iff.mpr (by decide))) kv_X9_258 ⟨⟨rfl, rfl⟩, Nat.le_of_ble_eq_true rfl, Nat.le_of_ble_eq_true rfl⟩ rfl hl.1 rfl (Nat.le_of_ble_eq_true rfl) ⟨by show (_ : Nat) ≤ 488; omega, by show (_ : Nat) ≤ 10184; omega⟩ (va_recv hE.1 hP (ci := 5) (q0 := 0) rfl rfl) hIT hP hD hS hA [0, 1] [] rfl rfl (by decide) (by decide) (by decide) dc_X9_digest_14 ?_
  rintro v9 u9 H locs ⟨r_1, rfl⟩ hP hD hS - hz hk9
  have hP : va_P G.1 kcl [(mo, .inr (5, [.int (w.1), .ref cs, .int (w.2.1), .int (w.2.2.1), .int (w.2.2.2.1)])), (cs, .inl (G.2.1 3, 6, .inr (.inr (.inr (.inr (f))))))] H := hP
  have hD : va_D A [(mo, .inr (5, [.int (w.1), .ref cs, .int (w.2.1), .int (w.2.2.1), .int (w.2.2.2.1)])), (cs, .inl (G.2.1 3, 6, .inr (.inr (.inr (.inr (f))))))] := hD
  refine W.widen (k := 1) (n := 4) (by first | exact Nat.le_refl _ | omega) (by first | exact Nat.le_refl _ | omega) ?_
  refine lv_i2l (v := (r_1).toInt64) hx hb dc_X9_digest_17 rfl ?_
  refine ky_cS0 (As := [.long ((7794 : Int64)), .long ((r_1).toInt64)]) F (mt_X9_add l ((7794 : Int64)) ((r_1).toInt64)) ks_X9_268 ⟨⟨rfl, rfl⟩, by decide, by decide⟩ rfl hl.1 rfl (Nat.le_of_ble_eq_true rfl) ⟨by show (_ : Nat) ≤ 488; omega, by show (_ : Nat) ≤ 10184; omega⟩ dc_X9_digest_18 ?_
  generalize ((fn_X9_add ((7794 : Int64)) ((r_1).toInt64)) : Int64) = j_2
  refine lv_lstore_n (lv' := [(1, .long (j_2)), (3, .int ((0 : Int32))), (0, .ref mo)]) hx hb dc_X9_digest_21 rfl hl (by decide) rfl (fun ls hl => ?_)
  refine lv_iinc (v := (1 : Int32)) (lv' := [(3, .int ((1 : Int32))), (1, .long (j_2)), (0, .ref mo)]) hx hb dc_X9_digest_22 hl (k := 1) rfl (by decide) (by decide) rfl (fun ls hl => ?_)
  refine lv_goto (tgt := 6) hx hb dc_X9_digest_25 (by decide) ?_
  refine lv_iload_n hx hb dc_X9_digest_6 rfl (lv_at hl 0 rfl) ?_
  refine lv_iconst (v := 4) hx hb dc_X9_digest_7 (by decide) ?_
  refine lv_icmp_ge (tgt := 28) hx hb dc_X9_digest_8 (by decide) (fun c_3 => absurd c_3 (by decide)) (fun _ => ?_)
  refine lv_lload_n hx hb dc_X9_digest_11 rfl (lv_at hl 1 rfl) ?_
  refine lv_aload_n hx hb dc_X9_digest_12 rfl (lv_at hl 2 rfl) ?_
  refine lv_iload_n hx hb dc_X9_digest_13 rfl (lv_at hl 0 rfl) ?_
  have hIT := hIT0.ro hAe hS
  refine ky_cVh (As := [.int ((1 : Int32))]) (wr := []) F (hE.at hfr hS) hfr (mt_X9_houseNowW l G mo cs N w f (1 : Int32) H.size (vp_in_iff.mpr (by decide))) kv_X9_258 ⟨⟨rfl, rfl⟩, Nat.le_of_ble_eq_true rfl, Nat.le_of_ble_eq_true rfl⟩ rfl hl.1 rfl (Nat.le_of_ble_eq_true rfl) ⟨by show (_ : Nat) ≤ 488; omega, by show (_ : Nat) ≤ 10184; omega⟩ (va_recv hE.1 hP (ci := 5) (q0 := 0) rfl rfl) hIT hP hD hS hA [0, 1] [] rfl rfl (by decide) (by decide) (by decide) dc_X9_digest_14 ?_
  rintro v9 u9 H locs ⟨r_4, rfl⟩ hP hD hS - hz hk9
  have hP : va_P G.1 kcl [(mo, .inr (5, [.int (w.1), .ref cs, .int (w.2.1), .int (w.2.2.1), .int (w.2.2.2.1)])), (cs, .inl (G.2.1 3, 6, .inr (.inr (.inr (.inr (f))))))] H := hP
  have hD : va_D A [(mo, .inr (5, [.int (w.1), .ref cs, .int (w.2.1), .int (w.2.2.1), .int (w.2.2.2.1)])), (cs, .inl (G.2.1 3, 6, .inr (.inr (.inr (.inr (f))))))] := hD
  refine W.widen (k := 2) (n := 8) (by first | exact Nat.le_refl _ | omega) (by first | exact Nat.le_refl _ | omega) ?_
  refine lv_i2l (v := (r_4).toInt64) hx hb dc_X9_digest_17 rfl ?_
  refine ky_cS0 (As := [.long (j_2), .long ((r_4).toInt64)]) F (mt_X9_add l (j_2) ((r_4).toInt64)) ks_X9_268 ⟨⟨rfl, rfl⟩, by decide, by decide⟩ rfl hl.1 rfl (Nat.le_of_ble_eq_true rfl) ⟨by show (_ : Nat) ≤ 488; omega, by show (_ : Nat) ≤ 10184; omega⟩ dc_X9_digest_18 ?_
  generalize ((fn_X9_add (j_2) ((r_4).toInt64)) : Int64) = j_5
  refine lv_lstore_n (lv' := [(1, .long (j_5)), (3, .int ((1 : Int32))), (0, .ref mo)]) hx hb dc_X9_digest_21 rfl hl (by decide) rfl (fun ls hl => ?_)
  refine lv_iinc (v := (2 : Int32)) (lv' := [(3, .int ((2 : Int32))), (1, .long (j_5)), (0, .ref mo)]) hx hb dc_X9_digest_22 hl (k := 1) rfl (by decide) (by decide) rfl (fun ls hl => ?_)
  refine lv_goto (tgt := 6) hx hb dc_X9_digest_25 (by decide) ?_
  refine lv_iload_n hx hb dc_X9_digest_6 rfl (lv_at hl 0 rfl) ?_
  refine lv_iconst (v := 4) hx hb dc_X9_digest_7 (by decide) ?_
  refine lv_icmp_ge (tgt := 28) hx hb dc_X9_digest_8 (by decide) (fun c_6 => absurd c_6 (by decide)) (fun _ => ?_)
  refine lv_lload_n hx hb dc_X9_digest_11 rfl (lv_at hl 1 rfl) ?_
  refine lv_aload_n hx hb dc_X9_digest_12 rfl (lv_at hl 2 rfl) ?_
  refine lv_iload_n hx hb dc_X9_digest_13 rfl (lv_at hl 0 rfl) ?_
  have hIT := hIT0.ro hAe hS
  refine ky_cVh (As := [.int ((2 : Int32))]) (wr := []) F (hE.at hfr hS) hfr (mt_X9_houseNowW l G mo cs N w f (2 : Int32) H.size (vp_in_iff.mpr (by decide))) kv_X9_258 ⟨⟨rfl, rfl⟩, Nat.le_of_ble_eq_true rfl, Nat.le_of_ble_eq_true rfl⟩ rfl hl.1 rfl (Nat.le_of_ble_eq_true rfl) ⟨by show (_ : Nat) ≤ 488; omega, by show (_ : Nat) ≤ 10184; omega⟩ (va_recv hE.1 hP (ci := 5) (q0 := 0) rfl rfl) hIT hP hD hS hA [0, 1] [] rfl rfl (by decide) (by decide) (by decide) dc_X9_digest_14 ?_
  rintro v9 u9 H locs ⟨r_7, rfl⟩ hP hD hS - hz hk9
  have hP : va_P G.1 kcl [(mo, .inr (5, [.int (w.1), .ref cs, .int (w.2.1), .int (w.2.2.1), .int (w.2.2.2.1)])), (cs, .inl (G.2.1 3, 6, .inr (.inr (.inr (.inr (f))))))] H := hP
  have hD : va_D A [(mo, .inr (5, [.int (w.1), .ref cs, .int (w.2.1), .int (w.2.2.1), .int (w.2.2.2.1)])), (cs, .inl (G.2.1 3, 6, .inr (.inr (.inr (.inr (f))))))] := hD
  refine W.widen (k := 3) (n := 12) (by first | exact Nat.le_refl _ | omega) (by first | exact Nat.le_refl _ | omega) ?_
  refine lv_i2l (v := (r_7).toInt64) hx hb dc_X9_digest_17 rfl ?_
  refine ky_cS0 (As := [.long (j_5), .long ((r_7).toInt64)]) F (mt_X9_add l (j_5) ((r_7).toInt64)) ks_X9_268 ⟨⟨rfl, rfl⟩, by decide, by decide⟩ rfl hl.1 rfl (Nat.le_of_ble_eq_true rfl) ⟨by show (_ : Nat) ≤ 488; omega, by show (_ : Nat) ≤ 10184; omega⟩ dc_X9_digest_18 ?_
  generalize ((fn_X9_add (j_5) ((r_7).toInt64)) : Int64) = j_8
  refine lv_lstore_n (lv' := [(1, .long (j_8)), (3, .int ((2 : Int32))), (0, .ref mo)]) hx hb dc_X9_digest_21 rfl hl (by decide) rfl (fun ls hl => ?_)
  refine lv_iinc (v := (3 : Int32)) (lv' := [(3, .int ((3 : Int32))), (1, .long (j_8)), (0, .ref mo)]) hx hb dc_X9_digest_22 hl (k := 1) rfl (by decide) (by decide) rfl (fun ls hl => ?_)
  refine lv_goto (tgt := 6) hx hb dc_X9_digest_25 (by decide) ?_
  refine lv_iload_n hx hb dc_X9_digest_6 rfl (lv_at hl 0 rfl) ?_
  refine lv_iconst (v := 4) hx hb dc_X9_digest_7 (by decide) ?_
  refine lv_icmp_ge (tgt := 28) hx hb dc_X9_digest_8 (by decide) (fun c_9 => absurd c_9 (by decide)) (fun _ => ?_)
  refine lv_lload_n hx hb dc_X9_digest_11 rfl (lv_at hl 1 rfl) ?_
  refine lv_aload_n hx hb dc_X9_digest_12 rfl (lv_at hl 2 rfl) ?_
  refine lv_iload_n hx hb dc_X9_digest_13 rfl (lv_at hl 0 rfl) ?_
  have hIT := hIT0.ro hAe hS
  refine ky_cVh (As := [.int ((3 : Int32))]) (wr := []) F (hE.at hfr hS) hfr (mt_X9_houseNowW l G mo cs N w f (3 : Int32) H.size (vp_in_iff.mpr (by decide))) kv_X9_258 ⟨⟨rfl, rfl⟩, Nat.le_of_ble_eq_true rfl, Nat.le_of_ble_eq_true rfl⟩ rfl hl.1 rfl (Nat.le_of_ble_eq_true rfl) ⟨by show (_ : Nat) ≤ 488; omega, by show (_ : Nat) ≤ 10184; omega⟩ (va_recv hE.1 hP (ci := 5) (q0 := 0) rfl rfl) hIT hP hD hS hA [0, 1] [] rfl rfl (by decide) (by decide) (by decide) dc_X9_digest_14 ?_
  rintro v9 u9 H locs ⟨r_10, rfl⟩ hP hD hS - hz hk9
  have hP : va_P G.1 kcl [(mo, .inr (5, [.int (w.1), .ref cs, .int (w.2.1), .int (w.2.2.1), .int (w.2.2.2.1)])), (cs, .inl (G.2.1 3, 6, .inr (.inr (.inr (.inr (f))))))] H := hP
  have hD : va_D A [(mo, .inr (5, [.int (w.1), .ref cs, .int (w.2.1), .int (w.2.2.1), .int (w.2.2.2.1)])), (cs, .inl (G.2.1 3, 6, .inr (.inr (.inr (.inr (f))))))] := hD
  refine W.widen (k := 4) (n := 16) (by first | exact Nat.le_refl _ | omega) (by first | exact Nat.le_refl _ | omega) ?_
  refine lv_i2l (v := (r_10).toInt64) hx hb dc_X9_digest_17 rfl ?_
  refine ky_cS0 (As := [.long (j_8), .long ((r_10).toInt64)]) F (mt_X9_add l (j_8) ((r_10).toInt64)) ks_X9_268 ⟨⟨rfl, rfl⟩, by decide, by decide⟩ rfl hl.1 rfl (Nat.le_of_ble_eq_true rfl) ⟨by show (_ : Nat) ≤ 488; omega, by show (_ : Nat) ≤ 10184; omega⟩ dc_X9_digest_18 ?_
  generalize ((fn_X9_add (j_8) ((r_10).toInt64)) : Int64) = j_11
  refine lv_lstore_n (lv' := [(1, .long (j_11)), (3, .int ((3 : Int32))), (0, .ref mo)]) hx hb dc_X9_digest_21 rfl hl (by decide) rfl (fun ls hl => ?_)
  refine lv_iinc (v := (4 : Int32)) (lv' := [(3, .int ((4 : Int32))), (1, .long (j_11)), (0, .ref mo)]) hx hb dc_X9_digest_22 hl (k := 1) rfl (by decide) (by decide) rfl (fun ls hl => ?_)
  refine lv_goto (tgt := 6) hx hb dc_X9_digest_25 (by decide) ?_
  refine lv_iload_n hx hb dc_X9_digest_6 rfl (lv_at hl 0 rfl) ?_
  refine lv_iconst (v := 4) hx hb dc_X9_digest_7 (by decide) ?_
  refine lv_icmp_ge (tgt := 28) hx hb dc_X9_digest_8 (by decide) (fun _ => ?_) (fun c_12 => absurd c_12 (by decide))
  refine lv_iconst (v := 0) hx hb dc_X9_digest_28 (by decide) ?_
  refine lv_istore_n (lv' := [(3, .int ((0 : Int32))), (1, .long (j_11)), (0, .ref mo)]) hx hb dc_X9_digest_29 rfl hl (by decide) rfl (fun ls hl => ?_)
  refine W.widen (k := 4 + 78 * 0) (n := 16 + 1630 * 0) (by first | exact Nat.le_refl _ | omega | exact Nat.zero_le _) (by first | exact Nat.le_refl _ | omega | exact Nat.zero_le _) ?_
  exact ml_X9_digest_L30 (mo := mo) (cs := cs) (N := N) (w := w) (f := f) F hE hA hfr hAe hIT0  (7) 0 j_11 (by omega) (by omega) _ _ (hP.sub (ws' := [(mo, .inr (5, [.int (w.1), .ref cs, .int (w.2.1), .int (w.2.2.1), .int (w.2.2.2.1)])), (cs, .inl (G.2.1 3, 6, .inr (.inr (.inr (.inr (f))))))]) [0, 1] rfl) (hD.sub (ws' := [(mo, .inr (5, [.int (w.1), .ref cs, .int (w.2.1), .int (w.2.2.1), .int (w.2.2.2.1)])), (cs, .inl (G.2.1 3, 6, .inr (.inr (.inr (.inr (f))))))]) [0, 1] (by decide) rfl) hS  _ (lv_sub hl [2, 1, 0] rfl)
