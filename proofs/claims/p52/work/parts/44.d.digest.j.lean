section
set_option linter.constructorNameAsVariable false in
set_option maxHeartbeats 4000000 in
set_option maxRecDepth 100000 in
theorem ml_X6_digest_L68 {p : Program} {l : Launch} {e : Env} {s : State} {m : MethodId} {args : Array Value} {below : List Frame} {meth : Method} {c : Code} {G : ky_G} {A : Nat → Prop} {x : Nat} {cs : Nat} {sc : Nat} {pf : Nat} {u : ky_BS} {fg : Nat} {b : Nat} {t9 : ky_SV} {tk : Nat} {r : Nat → Nat} {g : Nat → Nat → Int64} (F : ky_F p s m meth c my_X6_digest.cls prog_1_method_54_code 5 (some .long) args) (hE : ky_E G s) (hA : ∀ q, s.heap.size ≤ q → A q) (hfr : ∀ q, A q → ky_fr G q)   : ∀ (n9 : Nat) (i9 : Nat) (tq : ky_SV) (sm : Int64) (h9 : i9 ≤ 6) (hn9 : 6 - i9 < n9) (hq9 : ky_sok tq) (H : Heap) (locs : List Loc), va_P G.1 kcl [(x, .inr (0, [.ref cs, .ref sc, .ref pf, .int (u.2.1), .int (u.2.2.1), .int (u.2.2.2)])), (cs, .inl (G.2.1 2, 6, .inr (.inl (u.1)))), (sc, .inr (1, [.ref b, .ref fg])), (fg, .inl (G.2.1 1, 19, .inl (tq.2.2.2.2.2))), (b, .inr (6, [.ref tq.1, .int (0), .int (tq.2.2.2.2.1), .int (nI (tq.2.2.1))])), (tq.1, .inl (G.2.1 0, tq.2.1, .inl (tq.2.2.2.1))), (pf, .inr (2, [.ref tk])), (tk, .inl (G.2.1 4, 8, .inr (.inr (.inr (.inr (fun j => if j < 8 then some (r j) else none)))))), ((r 0), .inl (G.2.1 2, 6, .inr (.inl (g 0)))), ((r 1), .inl (G.2.1 2, 6, .inr (.inl (g 1)))), ((r 2), .inl (G.2.1 2, 6, .inr (.inl (g 2)))), ((r 3), .inl (G.2.1 2, 6, .inr (.inl (g 3)))), ((r 4), .inl (G.2.1 2, 6, .inr (.inl (g 4)))), ((r 5), .inl (G.2.1 2, 6, .inr (.inl (g 5)))), ((r 6), .inl (G.2.1 2, 6, .inr (.inl (g 6)))), ((r 7), .inl (G.2.1 2, 6, .inr (.inl (g 7))))] H → va_D A [(x, .inr (0, [.ref cs, .ref sc, .ref pf, .int (u.2.1), .int (u.2.2.1), .int (u.2.2.2)])), (cs, .inl (G.2.1 2, 6, .inr (.inl (u.1)))), (sc, .inr (1, [.ref b, .ref fg])), (fg, .inl (G.2.1 1, 19, .inl (tq.2.2.2.2.2))), (b, .inr (6, [.ref tq.1, .int (0), .int (tq.2.2.2.2.1), .int (nI (tq.2.2.1))])), (tq.1, .inl (G.2.1 0, tq.2.1, .inl (tq.2.2.2.1))), (pf, .inr (2, [.ref tk])), (tk, .inl (G.2.1 4, 8, .inr (.inr (.inr (.inr (fun j => if j < 8 then some (r j) else none)))))), ((r 0), .inl (G.2.1 2, 6, .inr (.inl (g 0)))), ((r 1), .inl (G.2.1 2, 6, .inr (.inl (g 1)))), ((r 2), .inl (G.2.1 2, 6, .inr (.inl (g 2)))), ((r 3), .inl (G.2.1 2, 6, .inr (.inl (g 3)))), ((r 4), .inl (G.2.1 2, 6, .inr (.inl (g 4)))), ((r 5), .inl (G.2.1 2, 6, .inr (.inl (g 5)))), ((r 6), .inl (G.2.1 2, 6, .inr (.inl (g 6)))), ((r 7), .inl (G.2.1 2, 6, .inr (.inl (g 7))))] → va_S A s.heap H locs →  ∀ ls : Array Slot, lv_has ls 5 [(0, .ref x), (1, .long (sm)), (3, .int (nI (i9)))] → W p l e { frames := 11, cells := 56, slots := 1904, locals := 251 } s m args below meth c H locs (54) (1836) (MQ below (ky_Q (S := ky_SV × (Nat → Nat → Int64)) G A (fun v w => (∃ z : Int64, v = some (.long z)) ∧ ky_sok w.1) (fun w => ky_WB G x cs sc pf u ++ (ky_WS G sc fg b w.1 ++ ky_WPf G pf tk r w.2)) (fun _ _ => True)) args s (56) (1904) A) (F0 m 68 ls []) := by
  obtain ⟨hx, hb, hml, hown, hr, hlocks, hts⟩ := id F
  intro n9
  induction n9 with
  | zero => intro i9 tq sm h9 hn9 hq9; exact False.elim (by omega)
  | succ n9 ih =>
      intro i9 tq sm h9 hn9 hq9 H locs hP hD hS  ls hl
      refine lv_iload_n hx hb dc_X6_digest_68 rfl (lv_at hl 2 rfl) ?_
      refine lv_bipush (v := 6) hx hb dc_X6_digest_69 (by decide) ?_
      refine lv_icmp_ge (tgt := 140) hx hb dc_X6_digest_71 (by decide) (fun c_0 => ?_) (fun c_0 => ?_)
      · skip
        refine lv_lload_n hx hb dc_X6_digest_140 rfl (lv_at hl 1 rfl) ?_
        refine lv_aload_n hx hb dc_X6_digest_141 rfl (lv_at hl 0 rfl) ?_
        refine va_get (D := G.1) (ci := 0) (v := .ref sc) (C := RX6) (T := TX6) (N := 6) hx hb hts ki_X6 hown hE.1 hP 0 rfl rfl 1 (by decide) (hts _ kw_1_99) (fun _ h9 => h9) rfl dc_X6_digest_142 ?_
        refine lv_aload_n hx hb dc_X6_digest_145 rfl (lv_at hl 0 rfl) ?_
        refine ky_cVh (As := []) (wr := [(sc, .inr (1, [.ref b, .ref fg])), (fg, .inl (G.2.1 1, 19, .inl (tq.2.2.2.2.2))), (b, .inr (6, [.ref tq.1, .int (0), .int (tq.2.2.2.2.1), .int (nI (tq.2.2.1))])), (tq.1, .inl (G.2.1 0, tq.2.1, .inl (tq.2.2.2.1))), (pf, .inr (2, [.ref tk])), (tk, .inl (G.2.1 4, 8, .inr (.inr (.inr (.inr (fun j => if j < 8 then some (r j) else none)))))), ((r 0), .inl (G.2.1 2, 6, .inr (.inl (g 0)))), ((r 1), .inl (G.2.1 2, 6, .inr (.inl (g 1)))), ((r 2), .inl (G.2.1 2, 6, .inr (.inl (g 2)))), ((r 3), .inl (G.2.1 2, 6, .inr (.inl (g 3)))), ((r 4), .inl (G.2.1 2, 6, .inr (.inl (g 4)))), ((r 5), .inl (G.2.1 2, 6, .inr (.inl (g 5)))), ((r 6), .inl (G.2.1 2, 6, .inr (.inl (g 6)))), ((r 7), .inl (G.2.1 2, 6, .inr (.inl (g 7))))]) F (hE.at hfr hS) hfr (mt_X6_lastOfAllJ l G (x) (cs) (sc) (pf) (u)  H.size ) kv_X6_179 ⟨⟨rfl, rfl⟩, by decide, by decide⟩ rfl hl.1 rfl (Nat.le_of_ble_eq_true rfl) ⟨by show (_ : Nat) ≤ 56; omega, by show (_ : Nat) ≤ 1904; omega⟩ (va_recv hE.1 hP (ci := 0) (q0 := 0) rfl rfl) trivial hP hD hS hA [0, 1] [2, 3, 4, 5, 6, 7, 8, 9, 10, 11, 12, 13, 14, 15] rfl rfl (by decide) (by decide) (by decide) dc_X6_digest_146 ?_
        rintro v9 u9 H locs ⟨rfl, hu9⟩ hP hD hS - hz hk9
        have hu9 := hu9.symm
        subst hu9
        have hP : va_P G.1 kcl [(sc, .inr (1, [.ref b, .ref fg])), (fg, .inl (G.2.1 1, 19, .inl (tq.2.2.2.2.2))), (b, .inr (6, [.ref tq.1, .int (0), .int (tq.2.2.2.2.1), .int (nI (tq.2.2.1))])), (tq.1, .inl (G.2.1 0, tq.2.1, .inl (tq.2.2.2.1))), (pf, .inr (2, [.ref tk])), (tk, .inl (G.2.1 4, 8, .inr (.inr (.inr (.inr (fun j => if j < 8 then some (r j) else none)))))), ((r 0), .inl (G.2.1 2, 6, .inr (.inl (g 0)))), ((r 1), .inl (G.2.1 2, 6, .inr (.inl (g 1)))), ((r 2), .inl (G.2.1 2, 6, .inr (.inl (g 2)))), ((r 3), .inl (G.2.1 2, 6, .inr (.inl (g 3)))), ((r 4), .inl (G.2.1 2, 6, .inr (.inl (g 4)))), ((r 5), .inl (G.2.1 2, 6, .inr (.inl (g 5)))), ((r 6), .inl (G.2.1 2, 6, .inr (.inl (g 6)))), ((r 7), .inl (G.2.1 2, 6, .inr (.inl (g 7)))), (x, .inr (0, [.ref cs, .ref sc, .ref pf, .int (u.2.1), .int (u.2.2.1), .int (u.2.2.2)])), (cs, .inl (G.2.1 2, 6, .inr (.inl (u.1))))] H := hP
        have hD : va_D A [(sc, .inr (1, [.ref b, .ref fg])), (fg, .inl (G.2.1 1, 19, .inl (tq.2.2.2.2.2))), (b, .inr (6, [.ref tq.1, .int (0), .int (tq.2.2.2.2.1), .int (nI (tq.2.2.1))])), (tq.1, .inl (G.2.1 0, tq.2.1, .inl (tq.2.2.2.1))), (pf, .inr (2, [.ref tk])), (tk, .inl (G.2.1 4, 8, .inr (.inr (.inr (.inr (fun j => if j < 8 then some (r j) else none)))))), ((r 0), .inl (G.2.1 2, 6, .inr (.inl (g 0)))), ((r 1), .inl (G.2.1 2, 6, .inr (.inl (g 1)))), ((r 2), .inl (G.2.1 2, 6, .inr (.inl (g 2)))), ((r 3), .inl (G.2.1 2, 6, .inr (.inl (g 3)))), ((r 4), .inl (G.2.1 2, 6, .inr (.inl (g 4)))), ((r 5), .inl (G.2.1 2, 6, .inr (.inl (g 5)))), ((r 6), .inl (G.2.1 2, 6, .inr (.inl (g 6)))), ((r 7), .inl (G.2.1 2, 6, .inr (.inl (g 7)))), (x, .inr (0, [.ref cs, .ref sc, .ref pf, .int (u.2.1), .int (u.2.2.1), .int (u.2.2.2)])), (cs, .inl (G.2.1 2, 6, .inr (.inl (u.1))))] := hD
        refine W.widen (k := 54) (n := 1836) (Nat.le_refl _) (Nat.le_refl _) ?_
        generalize (((fn_X6_lastOfAll u).1) : Int64) = j_2
        refine ky_cVh (As := [.long (j_2)]) (wr := [(pf, .inr (2, [.ref tk])), (tk, .inl (G.2.1 4, 8, .inr (.inr (.inr (.inr (fun j => if j < 8 then some (r j) else none)))))), ((r 0), .inl (G.2.1 2, 6, .inr (.inl (g 0)))), ((r 1), .inl (G.2.1 2, 6, .inr (.inl (g 1)))), ((r 2), .inl (G.2.1 2, 6, .inr (.inl (g 2)))), ((r 3), .inl (G.2.1 2, 6, .inr (.inl (g 3)))), ((r 4), .inl (G.2.1 2, 6, .inr (.inl (g 4)))), ((r 5), .inl (G.2.1 2, 6, .inr (.inl (g 5)))), ((r 6), .inl (G.2.1 2, 6, .inr (.inl (g 6)))), ((r 7), .inl (G.2.1 2, 6, .inr (.inl (g 7)))), (x, .inr (0, [.ref cs, .ref sc, .ref pf, .int (u.2.1), .int (u.2.2.1), .int (u.2.2.2)])), (cs, .inl (G.2.1 2, 6, .inr (.inl (u.1))))]) F (hE.at hfr hS) hfr (mt_X3_countNumber l G sc fg tq.2.2.2.2.2 b tq.1 tq.2.1 tq.2.2.1 tq.2.2.2.1 tq.2.2.2.2.1 j_2 H.size hq9.1 hq9.2.2.1 hq9.2.2.2 hq9.2.1) kv_X6_208 ⟨⟨rfl, rfl⟩, Nat.le_of_ble_eq_true rfl, Nat.le_of_ble_eq_true rfl⟩ rfl hl.1 rfl (Nat.le_of_ble_eq_true rfl) ⟨by show (_ : Nat) ≤ 56; omega, by show (_ : Nat) ≤ 1904; omega⟩ (va_recv hE.1 hP (ci := 1) (q0 := 0) rfl rfl) trivial hP hD hS hA [0, 1, 2, 3] [4, 5, 6, 7, 8, 9, 10, 11, 12, 13, 14, 15] rfl rfl (by decide) (by decide) (by decide) dc_X6_digest_149 ?_
        rintro v9 ⟨va_3, m_3, f_3, ml_3, fc_3⟩ H locs ⟨rfl, hm_3, hn_3, hf_3, hc_3⟩ hP hD hS - hz hk9
        have hP : va_P G.1 kcl [(pf, .inr (2, [.ref tk])), (tk, .inl (G.2.1 4, 8, .inr (.inr (.inr (.inr (fun j => if j < 8 then some (r j) else none)))))), ((r 0), .inl (G.2.1 2, 6, .inr (.inl (g 0)))), ((r 1), .inl (G.2.1 2, 6, .inr (.inl (g 1)))), ((r 2), .inl (G.2.1 2, 6, .inr (.inl (g 2)))), ((r 3), .inl (G.2.1 2, 6, .inr (.inl (g 3)))), ((r 4), .inl (G.2.1 2, 6, .inr (.inl (g 4)))), ((r 5), .inl (G.2.1 2, 6, .inr (.inl (g 5)))), ((r 6), .inl (G.2.1 2, 6, .inr (.inl (g 6)))), ((r 7), .inl (G.2.1 2, 6, .inr (.inl (g 7)))), (x, .inr (0, [.ref cs, .ref sc, .ref pf, .int (u.2.1), .int (u.2.2.1), .int (u.2.2.2)])), (cs, .inl (G.2.1 2, 6, .inr (.inl (u.1)))), (sc, .inr (1, [.ref b, .ref fg])), (fg, .inl (G.2.1 1, 19, .inl (fc_3))), (b, .inr (6, [.ref va_3, .int (0), .int (ml_3), .int (nI (ky_tl j_2))])), (va_3, .inl (G.2.1 0, m_3, .inl (f_3)))] H := hP
        have hD : va_D A [(pf, .inr (2, [.ref tk])), (tk, .inl (G.2.1 4, 8, .inr (.inr (.inr (.inr (fun j => if j < 8 then some (r j) else none)))))), ((r 0), .inl (G.2.1 2, 6, .inr (.inl (g 0)))), ((r 1), .inl (G.2.1 2, 6, .inr (.inl (g 1)))), ((r 2), .inl (G.2.1 2, 6, .inr (.inl (g 2)))), ((r 3), .inl (G.2.1 2, 6, .inr (.inl (g 3)))), ((r 4), .inl (G.2.1 2, 6, .inr (.inl (g 4)))), ((r 5), .inl (G.2.1 2, 6, .inr (.inl (g 5)))), ((r 6), .inl (G.2.1 2, 6, .inr (.inl (g 6)))), ((r 7), .inl (G.2.1 2, 6, .inr (.inl (g 7)))), (x, .inr (0, [.ref cs, .ref sc, .ref pf, .int (u.2.1), .int (u.2.2.1), .int (u.2.2.2)])), (cs, .inl (G.2.1 2, 6, .inr (.inl (u.1)))), (sc, .inr (1, [.ref b, .ref fg])), (fg, .inl (G.2.1 1, 19, .inl (fc_3))), (b, .inr (6, [.ref va_3, .int (0), .int (ml_3), .int (nI (ky_tl j_2))])), (va_3, .inl (G.2.1 0, m_3, .inl (f_3)))] := hD
        refine W.widen (k := 55) (n := 1870) (by first | exact Nat.le_refl _ | omega) (by first | exact Nat.le_refl _ | omega) ?_
        refine lv_i2l (v := (nI (ky_tl j_2)).toInt64) hx hb dc_X6_digest_152 rfl ?_
        refine ky_cS0 (As := [.long (sm), .long ((nI (ky_tl j_2)).toInt64)]) F (mt_X6_mixed l (sm) ((nI (ky_tl j_2)).toInt64)) ks_X6_199 ⟨⟨rfl, rfl⟩, by decide, by decide⟩ rfl hl.1 rfl (Nat.le_of_ble_eq_true rfl) ⟨by show (_ : Nat) ≤ 56; omega, by show (_ : Nat) ≤ 1904; omega⟩ dc_X6_digest_153 ?_
        generalize ((fn_X6_mixed (sm) ((nI (ky_tl j_2)).toInt64)) : Int64) = j_4
        refine lv_lstore_n (lv' := [(1, .long (j_4)), (0, .ref x), (3, .int (nI (i9)))]) hx hb dc_X6_digest_156 rfl hl (by decide) rfl (fun ls hl => ?_)
        refine lv_lload_n hx hb dc_X6_digest_157 rfl (lv_at hl 0 rfl) ?_
        refine lv_aload_n hx hb dc_X6_digest_158 rfl (lv_at hl 1 rfl) ?_
        refine va_get (D := G.1) (ci := 0) (v := .ref sc) (C := RX6) (T := TX6) (N := 6) hx hb hts ki_X6 hown hE.1 hP 10 rfl rfl 1 (by decide) (hts _ kw_1_99) (fun _ h9 => h9) rfl dc_X6_digest_159 ?_
        refine lv_aload_n hx hb dc_X6_digest_162 rfl (lv_at hl 1 rfl) ?_
        refine ky_cVh (As := []) (wr := [(pf, .inr (2, [.ref tk])), (tk, .inl (G.2.1 4, 8, .inr (.inr (.inr (.inr (fun j => if j < 8 then some (r j) else none)))))), ((r 0), .inl (G.2.1 2, 6, .inr (.inl (g 0)))), ((r 1), .inl (G.2.1 2, 6, .inr (.inl (g 1)))), ((r 2), .inl (G.2.1 2, 6, .inr (.inl (g 2)))), ((r 3), .inl (G.2.1 2, 6, .inr (.inl (g 3)))), ((r 4), .inl (G.2.1 2, 6, .inr (.inl (g 4)))), ((r 5), .inl (G.2.1 2, 6, .inr (.inl (g 5)))), ((r 6), .inl (G.2.1 2, 6, .inr (.inl (g 6)))), ((r 7), .inl (G.2.1 2, 6, .inr (.inl (g 7)))), (sc, .inr (1, [.ref b, .ref fg])), (fg, .inl (G.2.1 1, 19, .inl (fc_3))), (b, .inr (6, [.ref va_3, .int (0), .int (ml_3), .int (nI (ky_tl j_2))])), (va_3, .inl (G.2.1 0, m_3, .inl (f_3)))]) F (hE.at hfr hS) hfr (mt_X6_firstOfAllJ l G (x) (cs) (sc) (pf) (u)  H.size ) kv_X6_183 ⟨⟨rfl, rfl⟩, by decide, by decide⟩ rfl hl.1 rfl (Nat.le_of_ble_eq_true rfl) ⟨by show (_ : Nat) ≤ 56; omega, by show (_ : Nat) ≤ 1904; omega⟩ (va_recv hE.1 hP (ci := 0) (q0 := 10) rfl rfl) trivial hP hD hS hA [10, 11] [0, 1, 2, 3, 4, 5, 6, 7, 8, 9, 12, 13, 14, 15] rfl rfl (by decide) (by decide) (by decide) dc_X6_digest_163 ?_
        rintro v9 u9 H locs ⟨rfl, hu9⟩ hP hD hS - hz hk9
        have hu9 := hu9.symm
        subst hu9
        have hP : va_P G.1 kcl [(pf, .inr (2, [.ref tk])), (tk, .inl (G.2.1 4, 8, .inr (.inr (.inr (.inr (fun j => if j < 8 then some (r j) else none)))))), ((r 0), .inl (G.2.1 2, 6, .inr (.inl (g 0)))), ((r 1), .inl (G.2.1 2, 6, .inr (.inl (g 1)))), ((r 2), .inl (G.2.1 2, 6, .inr (.inl (g 2)))), ((r 3), .inl (G.2.1 2, 6, .inr (.inl (g 3)))), ((r 4), .inl (G.2.1 2, 6, .inr (.inl (g 4)))), ((r 5), .inl (G.2.1 2, 6, .inr (.inl (g 5)))), ((r 6), .inl (G.2.1 2, 6, .inr (.inl (g 6)))), ((r 7), .inl (G.2.1 2, 6, .inr (.inl (g 7)))), (sc, .inr (1, [.ref b, .ref fg])), (fg, .inl (G.2.1 1, 19, .inl (fc_3))), (b, .inr (6, [.ref va_3, .int (0), .int (ml_3), .int (nI (ky_tl j_2))])), (va_3, .inl (G.2.1 0, m_3, .inl (f_3))), (x, .inr (0, [.ref cs, .ref sc, .ref pf, .int (u.2.1), .int (u.2.2.1), .int (u.2.2.2)])), (cs, .inl (G.2.1 2, 6, .inr (.inl (u.1))))] H := hP
        have hD : va_D A [(pf, .inr (2, [.ref tk])), (tk, .inl (G.2.1 4, 8, .inr (.inr (.inr (.inr (fun j => if j < 8 then some (r j) else none)))))), ((r 0), .inl (G.2.1 2, 6, .inr (.inl (g 0)))), ((r 1), .inl (G.2.1 2, 6, .inr (.inl (g 1)))), ((r 2), .inl (G.2.1 2, 6, .inr (.inl (g 2)))), ((r 3), .inl (G.2.1 2, 6, .inr (.inl (g 3)))), ((r 4), .inl (G.2.1 2, 6, .inr (.inl (g 4)))), ((r 5), .inl (G.2.1 2, 6, .inr (.inl (g 5)))), ((r 6), .inl (G.2.1 2, 6, .inr (.inl (g 6)))), ((r 7), .inl (G.2.1 2, 6, .inr (.inl (g 7)))), (sc, .inr (1, [.ref b, .ref fg])), (fg, .inl (G.2.1 1, 19, .inl (fc_3))), (b, .inr (6, [.ref va_3, .int (0), .int (ml_3), .int (nI (ky_tl j_2))])), (va_3, .inl (G.2.1 0, m_3, .inl (f_3))), (x, .inr (0, [.ref cs, .ref sc, .ref pf, .int (u.2.1), .int (u.2.2.1), .int (u.2.2.2)])), (cs, .inl (G.2.1 2, 6, .inr (.inl (u.1))))] := hD
        refine W.widen (k := 55) (n := 1870) (Nat.le_refl _) (Nat.le_refl _) ?_
        generalize (((fn_X6_firstOfAll u).1) : Int64) = j_6
        refine ky_cVh (As := [.long (j_6)]) (wr := [(pf, .inr (2, [.ref tk])), (tk, .inl (G.2.1 4, 8, .inr (.inr (.inr (.inr (fun j => if j < 8 then some (r j) else none)))))), ((r 0), .inl (G.2.1 2, 6, .inr (.inl (g 0)))), ((r 1), .inl (G.2.1 2, 6, .inr (.inl (g 1)))), ((r 2), .inl (G.2.1 2, 6, .inr (.inl (g 2)))), ((r 3), .inl (G.2.1 2, 6, .inr (.inl (g 3)))), ((r 4), .inl (G.2.1 2, 6, .inr (.inl (g 4)))), ((r 5), .inl (G.2.1 2, 6, .inr (.inl (g 5)))), ((r 6), .inl (G.2.1 2, 6, .inr (.inl (g 6)))), ((r 7), .inl (G.2.1 2, 6, .inr (.inl (g 7)))), (x, .inr (0, [.ref cs, .ref sc, .ref pf, .int (u.2.1), .int (u.2.2.1), .int (u.2.2.2)])), (cs, .inl (G.2.1 2, 6, .inr (.inl (u.1))))]) F (hE.at hfr hS) hfr (mt_X3_countNumber l G sc fg fc_3 b va_3 m_3 (ky_tl j_2) f_3 ml_3 j_6 H.size hm_3 hf_3 hc_3 hn_3) kv_X6_208 ⟨⟨rfl, rfl⟩, Nat.le_of_ble_eq_true rfl, Nat.le_of_ble_eq_true rfl⟩ rfl hl.1 rfl (Nat.le_of_ble_eq_true rfl) ⟨by show (_ : Nat) ≤ 56; omega, by show (_ : Nat) ≤ 1904; omega⟩ (va_recv hE.1 hP (ci := 1) (q0 := 10) rfl rfl) trivial hP hD hS hA [10, 11, 12, 13] [0, 1, 2, 3, 4, 5, 6, 7, 8, 9, 14, 15] rfl rfl (by decide) (by decide) (by decide) dc_X6_digest_166 ?_
        rintro v9 ⟨va_7, m_7, f_7, ml_7, fc_7⟩ H locs ⟨rfl, hm_7, hn_7, hf_7, hc_7⟩ hP hD hS - hz hk9
        have hP : va_P G.1 kcl [(pf, .inr (2, [.ref tk])), (tk, .inl (G.2.1 4, 8, .inr (.inr (.inr (.inr (fun j => if j < 8 then some (r j) else none)))))), ((r 0), .inl (G.2.1 2, 6, .inr (.inl (g 0)))), ((r 1), .inl (G.2.1 2, 6, .inr (.inl (g 1)))), ((r 2), .inl (G.2.1 2, 6, .inr (.inl (g 2)))), ((r 3), .inl (G.2.1 2, 6, .inr (.inl (g 3)))), ((r 4), .inl (G.2.1 2, 6, .inr (.inl (g 4)))), ((r 5), .inl (G.2.1 2, 6, .inr (.inl (g 5)))), ((r 6), .inl (G.2.1 2, 6, .inr (.inl (g 6)))), ((r 7), .inl (G.2.1 2, 6, .inr (.inl (g 7)))), (x, .inr (0, [.ref cs, .ref sc, .ref pf, .int (u.2.1), .int (u.2.2.1), .int (u.2.2.2)])), (cs, .inl (G.2.1 2, 6, .inr (.inl (u.1)))), (sc, .inr (1, [.ref b, .ref fg])), (fg, .inl (G.2.1 1, 19, .inl (fc_7))), (b, .inr (6, [.ref va_7, .int (0), .int (ml_7), .int (nI (ky_tl j_6))])), (va_7, .inl (G.2.1 0, m_7, .inl (f_7)))] H := hP
        have hD : va_D A [(pf, .inr (2, [.ref tk])), (tk, .inl (G.2.1 4, 8, .inr (.inr (.inr (.inr (fun j => if j < 8 then some (r j) else none)))))), ((r 0), .inl (G.2.1 2, 6, .inr (.inl (g 0)))), ((r 1), .inl (G.2.1 2, 6, .inr (.inl (g 1)))), ((r 2), .inl (G.2.1 2, 6, .inr (.inl (g 2)))), ((r 3), .inl (G.2.1 2, 6, .inr (.inl (g 3)))), ((r 4), .inl (G.2.1 2, 6, .inr (.inl (g 4)))), ((r 5), .inl (G.2.1 2, 6, .inr (.inl (g 5)))), ((r 6), .inl (G.2.1 2, 6, .inr (.inl (g 6)))), ((r 7), .inl (G.2.1 2, 6, .inr (.inl (g 7)))), (x, .inr (0, [.ref cs, .ref sc, .ref pf, .int (u.2.1), .int (u.2.2.1), .int (u.2.2.2)])), (cs, .inl (G.2.1 2, 6, .inr (.inl (u.1)))), (sc, .inr (1, [.ref b, .ref fg])), (fg, .inl (G.2.1 1, 19, .inl (fc_7))), (b, .inr (6, [.ref va_7, .int (0), .int (ml_7), .int (nI (ky_tl j_6))])), (va_7, .inl (G.2.1 0, m_7, .inl (f_7)))] := hD
        refine W.widen (k := 56) (n := 1904) (by first | exact Nat.le_refl _ | omega) (by first | exact Nat.le_refl _ | omega) ?_
        refine lv_i2l (v := (nI (ky_tl j_6)).toInt64) hx hb dc_X6_digest_169 rfl ?_
        refine ky_cS0 (As := [.long (j_4), .long ((nI (ky_tl j_6)).toInt64)]) F (mt_X6_mixed l (j_4) ((nI (ky_tl j_6)).toInt64)) ks_X6_199 ⟨⟨rfl, rfl⟩, by decide, by decide⟩ rfl hl.1 rfl (Nat.le_of_ble_eq_true rfl) ⟨by show (_ : Nat) ≤ 56; omega, by show (_ : Nat) ≤ 1904; omega⟩ dc_X6_digest_170 ?_
        generalize ((fn_X6_mixed (j_4) ((nI (ky_tl j_6)).toInt64)) : Int64) = j_8
        refine lv_lstore_n (lv' := [(1, .long (j_8)), (0, .ref x), (3, .int (nI (i9)))]) hx hb dc_X6_digest_173 rfl hl (by decide) rfl (fun ls hl => ?_)
        refine lv_lload_n hx hb dc_X6_digest_174 rfl (lv_at hl 0 rfl) ?_
        refine lv_aload_n hx hb dc_X6_digest_175 rfl (lv_at hl 1 rfl) ?_
        refine va_get (D := G.1) (ci := 0) (v := .ref pf) (C := RX6) (T := TX6) (N := 6) hx hb hts ki_X6 hown hE.1 hP 10 rfl rfl 2 (by decide) (hts _ kw_1_100) (fun _ h9 => h9) rfl dc_X6_digest_176 ?_
        refine lv_aload_n hx hb dc_X6_digest_179 rfl (lv_at hl 1 rfl) ?_
        refine va_get (D := G.1) (ci := 0) (v := .ref cs) (C := RX6) (T := TX6) (N := 6) hx hb hts ki_X6 hown hE.1 hP 10 rfl rfl 0 (by decide) (hts _ kw_1_98) (fun _ h9 => h9) rfl dc_X6_digest_180 ?_
        refine ky_cVh (As := [.ref cs]) (wr := [(x, .inr (0, [.ref cs, .ref sc, .ref pf, .int (u.2.1), .int (u.2.2.1), .int (u.2.2.2)])), (sc, .inr (1, [.ref b, .ref fg])), (fg, .inl (G.2.1 1, 19, .inl (fc_7))), (b, .inr (6, [.ref va_7, .int (0), .int (ml_7), .int (nI (ky_tl j_6))])), (va_7, .inl (G.2.1 0, m_7, .inl (f_7)))]) F (hE.at hfr hS) hfr (mt_X1_holdsFor l G pf tk r g cs u.1 H.size ) kv_X6_193 ⟨⟨rfl, rfl⟩, Nat.le_of_ble_eq_true rfl, Nat.le_of_ble_eq_true rfl⟩ rfl hl.1 rfl (Nat.le_of_ble_eq_true rfl) ⟨by show (_ : Nat) ≤ 56; omega, by show (_ : Nat) ≤ 1904; omega⟩ (va_recv hE.1 hP (ci := 2) (q0 := 0) rfl rfl) trivial hP hD hS hA [0, 1, 2, 3, 4, 5, 6, 7, 8, 9, 11] [10, 12, 13, 14, 15] rfl rfl (by decide) (by decide) (by decide) dc_X6_digest_183 ?_
        rintro v9 g_9 H locs ⟨z_9, rfl, hz_9⟩ hP hD hS - hz hk9
        have hP : va_P G.1 kcl [(x, .inr (0, [.ref cs, .ref sc, .ref pf, .int (u.2.1), .int (u.2.2.1), .int (u.2.2.2)])), (sc, .inr (1, [.ref b, .ref fg])), (fg, .inl (G.2.1 1, 19, .inl (fc_7))), (b, .inr (6, [.ref va_7, .int (0), .int (ml_7), .int (nI (ky_tl j_6))])), (va_7, .inl (G.2.1 0, m_7, .inl (f_7))), (pf, .inr (2, [.ref tk])), (tk, .inl (G.2.1 4, 8, .inr (.inr (.inr (.inr (fun j => if j < 8 then some (r j) else none)))))), ((r 0), .inl (G.2.1 2, 6, .inr (.inl (g_9 0)))), ((r 1), .inl (G.2.1 2, 6, .inr (.inl (g_9 1)))), ((r 2), .inl (G.2.1 2, 6, .inr (.inl (g_9 2)))), ((r 3), .inl (G.2.1 2, 6, .inr (.inl (g_9 3)))), ((r 4), .inl (G.2.1 2, 6, .inr (.inl (g_9 4)))), ((r 5), .inl (G.2.1 2, 6, .inr (.inl (g_9 5)))), ((r 6), .inl (G.2.1 2, 6, .inr (.inl (g_9 6)))), ((r 7), .inl (G.2.1 2, 6, .inr (.inl (g_9 7)))), (cs, .inl (G.2.1 2, 6, .inr (.inl (u.1))))] H := hP
        have hD : va_D A [(x, .inr (0, [.ref cs, .ref sc, .ref pf, .int (u.2.1), .int (u.2.2.1), .int (u.2.2.2)])), (sc, .inr (1, [.ref b, .ref fg])), (fg, .inl (G.2.1 1, 19, .inl (fc_7))), (b, .inr (6, [.ref va_7, .int (0), .int (ml_7), .int (nI (ky_tl j_6))])), (va_7, .inl (G.2.1 0, m_7, .inl (f_7))), (pf, .inr (2, [.ref tk])), (tk, .inl (G.2.1 4, 8, .inr (.inr (.inr (.inr (fun j => if j < 8 then some (r j) else none)))))), ((r 0), .inl (G.2.1 2, 6, .inr (.inl (g_9 0)))), ((r 1), .inl (G.2.1 2, 6, .inr (.inl (g_9 1)))), ((r 2), .inl (G.2.1 2, 6, .inr (.inl (g_9 2)))), ((r 3), .inl (G.2.1 2, 6, .inr (.inl (g_9 3)))), ((r 4), .inl (G.2.1 2, 6, .inr (.inl (g_9 4)))), ((r 5), .inl (G.2.1 2, 6, .inr (.inl (g_9 5)))), ((r 6), .inl (G.2.1 2, 6, .inr (.inl (g_9 6)))), ((r 7), .inl (G.2.1 2, 6, .inr (.inl (g_9 7)))), (cs, .inl (G.2.1 2, 6, .inr (.inl (u.1))))] := hD
        refine W.widen (k := 56) (n := 1904) (by first | exact Nat.le_refl _ | omega) (by first | exact Nat.le_refl _ | omega) ?_
        refine lv_if_eq (tgt := 193) hx hb dc_X6_digest_186 (by decide) (fun c_10 => ?_) (fun c_10 => ?_)
        · skip
          refine lv_lconst (v := 0) hx hb dc_X6_digest_193 (by decide) ?_
          refine ky_cS0 (As := [.long (j_8), .long ((0 : Int64))]) F (mt_X6_mixed l (j_8) ((0 : Int64))) ks_X6_199 ⟨⟨rfl, rfl⟩, by decide, by decide⟩ rfl hl.1 rfl (Nat.le_of_ble_eq_true rfl) ⟨by show (_ : Nat) ≤ 56; omega, by show (_ : Nat) ≤ 1904; omega⟩ dc_X6_digest_194 ?_
          generalize ((fn_X6_mixed (j_8) ((0 : Int64))) : Int64) = j_11
          have hP9 := hP.sub (ws' := [(x, .inr (0, [.ref cs, .ref sc, .ref pf, .int (u.2.1), .int (u.2.2.1), .int (u.2.2.2)])), (cs, .inl (G.2.1 2, 6, .inr (.inl (u.1)))), (sc, .inr (1, [.ref b, .ref fg])), (fg, .inl (G.2.1 1, 19, .inl (fc_7))), (b, .inr (6, [.ref va_7, .int (0), .int (ml_7), .int (nI (ky_tl j_6))])), (va_7, .inl (G.2.1 0, m_7, .inl (f_7))), (pf, .inr (2, [.ref tk])), (tk, .inl (G.2.1 4, 8, .inr (.inr (.inr (.inr (fun j => if j < 8 then some (r j) else none)))))), ((r 0), .inl (G.2.1 2, 6, .inr (.inl (g_9 0)))), ((r 1), .inl (G.2.1 2, 6, .inr (.inl (g_9 1)))), ((r 2), .inl (G.2.1 2, 6, .inr (.inl (g_9 2)))), ((r 3), .inl (G.2.1 2, 6, .inr (.inl (g_9 3)))), ((r 4), .inl (G.2.1 2, 6, .inr (.inl (g_9 4)))), ((r 5), .inl (G.2.1 2, 6, .inr (.inl (g_9 5)))), ((r 6), .inl (G.2.1 2, 6, .inr (.inl (g_9 6)))), ((r 7), .inl (G.2.1 2, 6, .inr (.inl (g_9 7))))]) [0, 15, 1, 2, 3, 4, 5, 6, 7, 8, 9, 10, 11, 12, 13, 14] rfl
          have hD9 := hD.sub (ws' := [(x, .inr (0, [.ref cs, .ref sc, .ref pf, .int (u.2.1), .int (u.2.2.1), .int (u.2.2.2)])), (cs, .inl (G.2.1 2, 6, .inr (.inl (u.1)))), (sc, .inr (1, [.ref b, .ref fg])), (fg, .inl (G.2.1 1, 19, .inl (fc_7))), (b, .inr (6, [.ref va_7, .int (0), .int (ml_7), .int (nI (ky_tl j_6))])), (va_7, .inl (G.2.1 0, m_7, .inl (f_7))), (pf, .inr (2, [.ref tk])), (tk, .inl (G.2.1 4, 8, .inr (.inr (.inr (.inr (fun j => if j < 8 then some (r j) else none)))))), ((r 0), .inl (G.2.1 2, 6, .inr (.inl (g_9 0)))), ((r 1), .inl (G.2.1 2, 6, .inr (.inl (g_9 1)))), ((r 2), .inl (G.2.1 2, 6, .inr (.inl (g_9 2)))), ((r 3), .inl (G.2.1 2, 6, .inr (.inl (g_9 3)))), ((r 4), .inl (G.2.1 2, 6, .inr (.inl (g_9 4)))), ((r 5), .inl (G.2.1 2, 6, .inr (.inl (g_9 5)))), ((r 6), .inl (G.2.1 2, 6, .inr (.inl (g_9 6)))), ((r 7), .inl (G.2.1 2, 6, .inr (.inl (g_9 7))))]) [0, 15, 1, 2, 3, 4, 5, 6, 7, 8, 9, 10, 11, 12, 13, 14] (by decide) rfl
          refine W.widen (k := 56) (n := 1904) (by omega) (by omega) ?_
          exact W.lret (v := j_11) hx hb hr (fun t ht hW => ⟨⟨_, ((va_7, m_7, ky_tl j_6, f_7, ml_7, fc_7), g_9), rfl, ⟨⟨_, rfl⟩, ⟨hm_7, hn_7, hf_7, hc_7⟩⟩, by rw [ht]; exact hP9, hD9, trivial⟩, hS.F ht⟩) hS.2.2 dc_X6_digest_197
        · skip
          refine lv_lconst (v := 1) hx hb dc_X6_digest_189 (by decide) ?_
          refine lv_goto (tgt := 194) hx hb dc_X6_digest_190 (by decide) ?_
          refine ky_cS0 (As := [.long (j_8), .long ((1 : Int64))]) F (mt_X6_mixed l (j_8) ((1 : Int64))) ks_X6_199 ⟨⟨rfl, rfl⟩, by decide, by decide⟩ rfl hl.1 rfl (Nat.le_of_ble_eq_true rfl) ⟨by show (_ : Nat) ≤ 56; omega, by show (_ : Nat) ≤ 1904; omega⟩ dc_X6_digest_194 ?_
          generalize ((fn_X6_mixed (j_8) ((1 : Int64))) : Int64) = j_11
          have hP9 := hP.sub (ws' := [(x, .inr (0, [.ref cs, .ref sc, .ref pf, .int (u.2.1), .int (u.2.2.1), .int (u.2.2.2)])), (cs, .inl (G.2.1 2, 6, .inr (.inl (u.1)))), (sc, .inr (1, [.ref b, .ref fg])), (fg, .inl (G.2.1 1, 19, .inl (fc_7))), (b, .inr (6, [.ref va_7, .int (0), .int (ml_7), .int (nI (ky_tl j_6))])), (va_7, .inl (G.2.1 0, m_7, .inl (f_7))), (pf, .inr (2, [.ref tk])), (tk, .inl (G.2.1 4, 8, .inr (.inr (.inr (.inr (fun j => if j < 8 then some (r j) else none)))))), ((r 0), .inl (G.2.1 2, 6, .inr (.inl (g_9 0)))), ((r 1), .inl (G.2.1 2, 6, .inr (.inl (g_9 1)))), ((r 2), .inl (G.2.1 2, 6, .inr (.inl (g_9 2)))), ((r 3), .inl (G.2.1 2, 6, .inr (.inl (g_9 3)))), ((r 4), .inl (G.2.1 2, 6, .inr (.inl (g_9 4)))), ((r 5), .inl (G.2.1 2, 6, .inr (.inl (g_9 5)))), ((r 6), .inl (G.2.1 2, 6, .inr (.inl (g_9 6)))), ((r 7), .inl (G.2.1 2, 6, .inr (.inl (g_9 7))))]) [0, 15, 1, 2, 3, 4, 5, 6, 7, 8, 9, 10, 11, 12, 13, 14] rfl
          have hD9 := hD.sub (ws' := [(x, .inr (0, [.ref cs, .ref sc, .ref pf, .int (u.2.1), .int (u.2.2.1), .int (u.2.2.2)])), (cs, .inl (G.2.1 2, 6, .inr (.inl (u.1)))), (sc, .inr (1, [.ref b, .ref fg])), (fg, .inl (G.2.1 1, 19, .inl (fc_7))), (b, .inr (6, [.ref va_7, .int (0), .int (ml_7), .int (nI (ky_tl j_6))])), (va_7, .inl (G.2.1 0, m_7, .inl (f_7))), (pf, .inr (2, [.ref tk])), (tk, .inl (G.2.1 4, 8, .inr (.inr (.inr (.inr (fun j => if j < 8 then some (r j) else none)))))), ((r 0), .inl (G.2.1 2, 6, .inr (.inl (g_9 0)))), ((r 1), .inl (G.2.1 2, 6, .inr (.inl (g_9 1)))), ((r 2), .inl (G.2.1 2, 6, .inr (.inl (g_9 2)))), ((r 3), .inl (G.2.1 2, 6, .inr (.inl (g_9 3)))), ((r 4), .inl (G.2.1 2, 6, .inr (.inl (g_9 4)))), ((r 5), .inl (G.2.1 2, 6, .inr (.inl (g_9 5)))), ((r 6), .inl (G.2.1 2, 6, .inr (.inl (g_9 6)))), ((r 7), .inl (G.2.1 2, 6, .inr (.inl (g_9 7))))]) [0, 15, 1, 2, 3, 4, 5, 6, 7, 8, 9, 10, 11, 12, 13, 14] (by decide) rfl
          refine W.widen (k := 56) (n := 1904) (by omega) (by omega) ?_
          exact W.lret (v := j_11) hx hb hr (fun t ht hW => ⟨⟨_, ((va_7, m_7, ky_tl j_6, f_7, ml_7, fc_7), g_9), rfl, ⟨⟨_, rfl⟩, ⟨hm_7, hn_7, hf_7, hc_7⟩⟩, by rw [ht]; exact hP9, hD9, trivial⟩, hS.F ht⟩) hS.2.2 dc_X6_digest_197
      · skip
        have h9i9 : ¬ 6 ≤ i9 := fun z => c_0 ((nI_leI (a := 6) (b := i9) (by omega) (by omega)).mpr z)
        refine lv_iconst (v := 0) hx hb dc_X6_digest_74 (by decide) ?_
        refine lv_istore (lv' := [(4, .int ((0 : Int32))), (0, .ref x), (1, .long (sm)), (3, .int (nI (i9)))]) hx hb dc_X6_digest_75 hl (by decide) rfl (fun ls hl => ?_)
        refine lv_iload hx hb dc_X6_digest_77 (lv_at hl 0 rfl) ?_
        refine lv_bipush (v := 6) hx hb dc_X6_digest_79 (by decide) ?_
        refine lv_icmp_ge (tgt := 134) hx hb dc_X6_digest_81 (by decide) (fun c_1 => absurd c_1 (by decide)) (fun _ => ?_)
        refine lv_lload_n hx hb dc_X6_digest_84 rfl (lv_at hl 2 rfl) ?_
        refine lv_aload_n hx hb dc_X6_digest_85 rfl (lv_at hl 1 rfl) ?_
        refine va_get (D := G.1) (ci := 0) (v := .ref cs) (C := RX6) (T := TX6) (N := 6) hx hb hts ki_X6 hown hE.1 hP 0 rfl rfl 0 (by decide) (hts _ kw_1_98) (fun _ h9 => h9) rfl dc_X6_digest_86 ?_
        refine lv_iload_n hx hb dc_X6_digest_89 rfl (lv_at hl 3 rfl) ?_
        refine va_lald hx hb hE.1 hP 1 2 rfl rfl (vp_in_nI (by omega) (by omega)) dc_X6_digest_90 ?_
        refine lv_aload_n hx hb dc_X6_digest_91 rfl (lv_at hl 1 rfl) ?_
        refine va_get (D := G.1) (ci := 0) (v := .ref cs) (C := RX6) (T := TX6) (N := 6) hx hb hts ki_X6 hown hE.1 hP 0 rfl rfl 0 (by decide) (hts _ kw_1_98) (fun _ h9 => h9) rfl dc_X6_digest_92 ?_
        refine lv_iload hx hb dc_X6_digest_95 (lv_at hl 0 rfl) ?_
        refine va_lald hx hb hE.1 hP 1 2 rfl rfl (vp_in_iff.mpr (by decide)) dc_X6_digest_97 ?_
        refine ky_cS0 (As := [.long ((u.1) (nI (i9)).toNatClampNeg), .long ((u.1) ((0 : Int32)).toNatClampNeg)]) F (mt_X6_orderOf l ((u.1) (nI (i9)).toNatClampNeg) ((u.1) ((0 : Int32)).toNatClampNeg)) ks_X6_166 ⟨⟨rfl, rfl⟩, by decide, by decide⟩ rfl hl.1 rfl (Nat.le_of_ble_eq_true rfl) ⟨by show (_ : Nat) ≤ 56; omega, by show (_ : Nat) ≤ 1904; omega⟩ dc_X6_digest_98 ?_
        refine lv_i2l (v := (fn_X6_orderOf ((u.1) (nI (i9)).toNatClampNeg) ((u.1) ((0 : Int32)).toNatClampNeg)).toInt64) hx hb dc_X6_digest_101 rfl ?_
        refine ky_cS0 (As := [.long (sm), .long ((fn_X6_orderOf ((u.1) (nI (i9)).toNatClampNeg) ((u.1) ((0 : Int32)).toNatClampNeg)).toInt64)]) F (mt_X6_mixed l (sm) ((fn_X6_orderOf ((u.1) (nI (i9)).toNatClampNeg) ((u.1) ((0 : Int32)).toNatClampNeg)).toInt64)) ks_X6_199 ⟨⟨rfl, rfl⟩, by decide, by decide⟩ rfl hl.1 rfl (Nat.le_of_ble_eq_true rfl) ⟨by show (_ : Nat) ≤ 56; omega, by show (_ : Nat) ≤ 1904; omega⟩ dc_X6_digest_102 ?_
        generalize ((fn_X6_mixed (sm) ((fn_X6_orderOf ((u.1) (nI (i9)).toNatClampNeg) ((u.1) ((0 : Int32)).toNatClampNeg)).toInt64)) : Int64) = j_2
        refine lv_lstore_n (lv' := [(1, .long (j_2)), (4, .int ((0 : Int32))), (0, .ref x), (3, .int (nI (i9)))]) hx hb dc_X6_digest_105 rfl hl (by decide) rfl (fun ls hl => ?_)
        refine lv_lload_n hx hb dc_X6_digest_106 rfl (lv_at hl 0 rfl) ?_
        refine lv_aload_n hx hb dc_X6_digest_107 rfl (lv_at hl 2 rfl) ?_
        refine va_get (D := G.1) (ci := 0) (v := .ref cs) (C := RX6) (T := TX6) (N := 6) hx hb hts ki_X6 hown hE.1 hP 0 rfl rfl 0 (by decide) (hts _ kw_1_98) (fun _ h9 => h9) rfl dc_X6_digest_108 ?_
        refine lv_iload_n hx hb dc_X6_digest_111 rfl (lv_at hl 3 rfl) ?_
        refine va_lald hx hb hE.1 hP 1 2 rfl rfl (vp_in_nI (by omega) (by omega)) dc_X6_digest_112 ?_
        refine lv_aload_n hx hb dc_X6_digest_113 rfl (lv_at hl 2 rfl) ?_
        refine va_get (D := G.1) (ci := 0) (v := .ref cs) (C := RX6) (T := TX6) (N := 6) hx hb hts ki_X6 hown hE.1 hP 0 rfl rfl 0 (by decide) (hts _ kw_1_98) (fun _ h9 => h9) rfl dc_X6_digest_114 ?_
        refine lv_iload hx hb dc_X6_digest_117 (lv_at hl 1 rfl) ?_
        refine va_lald hx hb hE.1 hP 1 2 rfl rfl (vp_in_iff.mpr (by decide)) dc_X6_digest_119 ?_
        refine ky_cS0 (As := [.long ((u.1) (nI (i9)).toNatClampNeg), .long ((u.1) ((0 : Int32)).toNatClampNeg)]) F (mt_X6_stepsBetween l ((u.1) (nI (i9)).toNatClampNeg) ((u.1) ((0 : Int32)).toNatClampNeg)) ks_X6_173 ⟨⟨rfl, rfl⟩, by decide, by decide⟩ rfl hl.1 rfl (Nat.le_of_ble_eq_true rfl) ⟨by show (_ : Nat) ≤ 56; omega, by show (_ : Nat) ≤ 1904; omega⟩ dc_X6_digest_120 ?_
        refine lv_i2l (v := (fn_X6_stepsBetween ((u.1) (nI (i9)).toNatClampNeg) ((u.1) ((0 : Int32)).toNatClampNeg)).toInt64) hx hb dc_X6_digest_123 rfl ?_
        refine ky_cS0 (As := [.long (j_2), .long ((fn_X6_stepsBetween ((u.1) (nI (i9)).toNatClampNeg) ((u.1) ((0 : Int32)).toNatClampNeg)).toInt64)]) F (mt_X6_mixed l (j_2) ((fn_X6_stepsBetween ((u.1) (nI (i9)).toNatClampNeg) ((u.1) ((0 : Int32)).toNatClampNeg)).toInt64)) ks_X6_199 ⟨⟨rfl, rfl⟩, by decide, by decide⟩ rfl hl.1 rfl (Nat.le_of_ble_eq_true rfl) ⟨by show (_ : Nat) ≤ 56; omega, by show (_ : Nat) ≤ 1904; omega⟩ dc_X6_digest_124 ?_
        generalize ((fn_X6_mixed (j_2) ((fn_X6_stepsBetween ((u.1) (nI (i9)).toNatClampNeg) ((u.1) ((0 : Int32)).toNatClampNeg)).toInt64)) : Int64) = j_3
        refine lv_lstore_n (lv' := [(1, .long (j_3)), (4, .int ((0 : Int32))), (0, .ref x), (3, .int (nI (i9)))]) hx hb dc_X6_digest_127 rfl hl (by decide) rfl (fun ls hl => ?_)
        refine lv_iinc (v := (1 : Int32)) (lv' := [(4, .int ((1 : Int32))), (1, .long (j_3)), (0, .ref x), (3, .int (nI (i9)))]) hx hb dc_X6_digest_128 hl (k := 1) rfl (by decide) (by decide) rfl (fun ls hl => ?_)
        refine lv_goto (tgt := 77) hx hb dc_X6_digest_131 (by decide) ?_
        refine lv_iload hx hb dc_X6_digest_77 (lv_at hl 0 rfl) ?_
        refine lv_bipush (v := 6) hx hb dc_X6_digest_79 (by decide) ?_
        refine lv_icmp_ge (tgt := 134) hx hb dc_X6_digest_81 (by decide) (fun c_4 => absurd c_4 (by decide)) (fun _ => ?_)
        refine lv_lload_n hx hb dc_X6_digest_84 rfl (lv_at hl 1 rfl) ?_
        refine lv_aload_n hx hb dc_X6_digest_85 rfl (lv_at hl 2 rfl) ?_
        refine va_get (D := G.1) (ci := 0) (v := .ref cs) (C := RX6) (T := TX6) (N := 6) hx hb hts ki_X6 hown hE.1 hP 0 rfl rfl 0 (by decide) (hts _ kw_1_98) (fun _ h9 => h9) rfl dc_X6_digest_86 ?_
        refine lv_iload_n hx hb dc_X6_digest_89 rfl (lv_at hl 3 rfl) ?_
        refine va_lald hx hb hE.1 hP 1 2 rfl rfl (vp_in_nI (by omega) (by omega)) dc_X6_digest_90 ?_
        refine lv_aload_n hx hb dc_X6_digest_91 rfl (lv_at hl 2 rfl) ?_
        refine va_get (D := G.1) (ci := 0) (v := .ref cs) (C := RX6) (T := TX6) (N := 6) hx hb hts ki_X6 hown hE.1 hP 0 rfl rfl 0 (by decide) (hts _ kw_1_98) (fun _ h9 => h9) rfl dc_X6_digest_92 ?_
        refine lv_iload hx hb dc_X6_digest_95 (lv_at hl 0 rfl) ?_
        refine va_lald hx hb hE.1 hP 1 2 rfl rfl (vp_in_iff.mpr (by decide)) dc_X6_digest_97 ?_
        refine ky_cS0 (As := [.long ((u.1) (nI (i9)).toNatClampNeg), .long ((u.1) ((1 : Int32)).toNatClampNeg)]) F (mt_X6_orderOf l ((u.1) (nI (i9)).toNatClampNeg) ((u.1) ((1 : Int32)).toNatClampNeg)) ks_X6_166 ⟨⟨rfl, rfl⟩, by decide, by decide⟩ rfl hl.1 rfl (Nat.le_of_ble_eq_true rfl) ⟨by show (_ : Nat) ≤ 56; omega, by show (_ : Nat) ≤ 1904; omega⟩ dc_X6_digest_98 ?_
        refine lv_i2l (v := (fn_X6_orderOf ((u.1) (nI (i9)).toNatClampNeg) ((u.1) ((1 : Int32)).toNatClampNeg)).toInt64) hx hb dc_X6_digest_101 rfl ?_
        refine ky_cS0 (As := [.long (j_3), .long ((fn_X6_orderOf ((u.1) (nI (i9)).toNatClampNeg) ((u.1) ((1 : Int32)).toNatClampNeg)).toInt64)]) F (mt_X6_mixed l (j_3) ((fn_X6_orderOf ((u.1) (nI (i9)).toNatClampNeg) ((u.1) ((1 : Int32)).toNatClampNeg)).toInt64)) ks_X6_199 ⟨⟨rfl, rfl⟩, by decide, by decide⟩ rfl hl.1 rfl (Nat.le_of_ble_eq_true rfl) ⟨by show (_ : Nat) ≤ 56; omega, by show (_ : Nat) ≤ 1904; omega⟩ dc_X6_digest_102 ?_
        generalize ((fn_X6_mixed (j_3) ((fn_X6_orderOf ((u.1) (nI (i9)).toNatClampNeg) ((u.1) ((1 : Int32)).toNatClampNeg)).toInt64)) : Int64) = j_5
        refine lv_lstore_n (lv' := [(1, .long (j_5)), (4, .int ((1 : Int32))), (0, .ref x), (3, .int (nI (i9)))]) hx hb dc_X6_digest_105 rfl hl (by decide) rfl (fun ls hl => ?_)
        refine lv_lload_n hx hb dc_X6_digest_106 rfl (lv_at hl 0 rfl) ?_
        refine lv_aload_n hx hb dc_X6_digest_107 rfl (lv_at hl 2 rfl) ?_
        refine va_get (D := G.1) (ci := 0) (v := .ref cs) (C := RX6) (T := TX6) (N := 6) hx hb hts ki_X6 hown hE.1 hP 0 rfl rfl 0 (by decide) (hts _ kw_1_98) (fun _ h9 => h9) rfl dc_X6_digest_108 ?_
        refine lv_iload_n hx hb dc_X6_digest_111 rfl (lv_at hl 3 rfl) ?_
        refine va_lald hx hb hE.1 hP 1 2 rfl rfl (vp_in_nI (by omega) (by omega)) dc_X6_digest_112 ?_
        refine lv_aload_n hx hb dc_X6_digest_113 rfl (lv_at hl 2 rfl) ?_
        refine va_get (D := G.1) (ci := 0) (v := .ref cs) (C := RX6) (T := TX6) (N := 6) hx hb hts ki_X6 hown hE.1 hP 0 rfl rfl 0 (by decide) (hts _ kw_1_98) (fun _ h9 => h9) rfl dc_X6_digest_114 ?_
        refine lv_iload hx hb dc_X6_digest_117 (lv_at hl 1 rfl) ?_
        refine va_lald hx hb hE.1 hP 1 2 rfl rfl (vp_in_iff.mpr (by decide)) dc_X6_digest_119 ?_
        refine ky_cS0 (As := [.long ((u.1) (nI (i9)).toNatClampNeg), .long ((u.1) ((1 : Int32)).toNatClampNeg)]) F (mt_X6_stepsBetween l ((u.1) (nI (i9)).toNatClampNeg) ((u.1) ((1 : Int32)).toNatClampNeg)) ks_X6_173 ⟨⟨rfl, rfl⟩, by decide, by decide⟩ rfl hl.1 rfl (Nat.le_of_ble_eq_true rfl) ⟨by show (_ : Nat) ≤ 56; omega, by show (_ : Nat) ≤ 1904; omega⟩ dc_X6_digest_120 ?_
        refine lv_i2l (v := (fn_X6_stepsBetween ((u.1) (nI (i9)).toNatClampNeg) ((u.1) ((1 : Int32)).toNatClampNeg)).toInt64) hx hb dc_X6_digest_123 rfl ?_
        refine ky_cS0 (As := [.long (j_5), .long ((fn_X6_stepsBetween ((u.1) (nI (i9)).toNatClampNeg) ((u.1) ((1 : Int32)).toNatClampNeg)).toInt64)]) F (mt_X6_mixed l (j_5) ((fn_X6_stepsBetween ((u.1) (nI (i9)).toNatClampNeg) ((u.1) ((1 : Int32)).toNatClampNeg)).toInt64)) ks_X6_199 ⟨⟨rfl, rfl⟩, by decide, by decide⟩ rfl hl.1 rfl (Nat.le_of_ble_eq_true rfl) ⟨by show (_ : Nat) ≤ 56; omega, by show (_ : Nat) ≤ 1904; omega⟩ dc_X6_digest_124 ?_
        generalize ((fn_X6_mixed (j_5) ((fn_X6_stepsBetween ((u.1) (nI (i9)).toNatClampNeg) ((u.1) ((1 : Int32)).toNatClampNeg)).toInt64)) : Int64) = j_6
        refine lv_lstore_n (lv' := [(1, .long (j_6)), (4, .int ((1 : Int32))), (0, .ref x), (3, .int (nI (i9)))]) hx hb dc_X6_digest_127 rfl hl (by decide) rfl (fun ls hl => ?_)
        refine lv_iinc (v := (2 : Int32)) (lv' := [(4, .int ((2 : Int32))), (1, .long (j_6)), (0, .ref x), (3, .int (nI (i9)))]) hx hb dc_X6_digest_128 hl (k := 1) rfl (by decide) (by decide) rfl (fun ls hl => ?_)
        refine lv_goto (tgt := 77) hx hb dc_X6_digest_131 (by decide) ?_
        refine lv_iload hx hb dc_X6_digest_77 (lv_at hl 0 rfl) ?_
        refine lv_bipush (v := 6) hx hb dc_X6_digest_79 (by decide) ?_
        refine lv_icmp_ge (tgt := 134) hx hb dc_X6_digest_81 (by decide) (fun c_7 => absurd c_7 (by decide)) (fun _ => ?_)
        refine lv_lload_n hx hb dc_X6_digest_84 rfl (lv_at hl 1 rfl) ?_
        refine lv_aload_n hx hb dc_X6_digest_85 rfl (lv_at hl 2 rfl) ?_
        refine va_get (D := G.1) (ci := 0) (v := .ref cs) (C := RX6) (T := TX6) (N := 6) hx hb hts ki_X6 hown hE.1 hP 0 rfl rfl 0 (by decide) (hts _ kw_1_98) (fun _ h9 => h9) rfl dc_X6_digest_86 ?_
        refine lv_iload_n hx hb dc_X6_digest_89 rfl (lv_at hl 3 rfl) ?_
        refine va_lald hx hb hE.1 hP 1 2 rfl rfl (vp_in_nI (by omega) (by omega)) dc_X6_digest_90 ?_
        refine lv_aload_n hx hb dc_X6_digest_91 rfl (lv_at hl 2 rfl) ?_
        refine va_get (D := G.1) (ci := 0) (v := .ref cs) (C := RX6) (T := TX6) (N := 6) hx hb hts ki_X6 hown hE.1 hP 0 rfl rfl 0 (by decide) (hts _ kw_1_98) (fun _ h9 => h9) rfl dc_X6_digest_92 ?_
        refine lv_iload hx hb dc_X6_digest_95 (lv_at hl 0 rfl) ?_
        refine va_lald hx hb hE.1 hP 1 2 rfl rfl (vp_in_iff.mpr (by decide)) dc_X6_digest_97 ?_
        refine ky_cS0 (As := [.long ((u.1) (nI (i9)).toNatClampNeg), .long ((u.1) ((2 : Int32)).toNatClampNeg)]) F (mt_X6_orderOf l ((u.1) (nI (i9)).toNatClampNeg) ((u.1) ((2 : Int32)).toNatClampNeg)) ks_X6_166 ⟨⟨rfl, rfl⟩, by decide, by decide⟩ rfl hl.1 rfl (Nat.le_of_ble_eq_true rfl) ⟨by show (_ : Nat) ≤ 56; omega, by show (_ : Nat) ≤ 1904; omega⟩ dc_X6_digest_98 ?_
        refine lv_i2l (v := (fn_X6_orderOf ((u.1) (nI (i9)).toNatClampNeg) ((u.1) ((2 : Int32)).toNatClampNeg)).toInt64) hx hb dc_X6_digest_101 rfl ?_
        refine ky_cS0 (As := [.long (j_6), .long ((fn_X6_orderOf ((u.1) (nI (i9)).toNatClampNeg) ((u.1) ((2 : Int32)).toNatClampNeg)).toInt64)]) F (mt_X6_mixed l (j_6) ((fn_X6_orderOf ((u.1) (nI (i9)).toNatClampNeg) ((u.1) ((2 : Int32)).toNatClampNeg)).toInt64)) ks_X6_199 ⟨⟨rfl, rfl⟩, by decide, by decide⟩ rfl hl.1 rfl (Nat.le_of_ble_eq_true rfl) ⟨by show (_ : Nat) ≤ 56; omega, by show (_ : Nat) ≤ 1904; omega⟩ dc_X6_digest_102 ?_
        generalize ((fn_X6_mixed (j_6) ((fn_X6_orderOf ((u.1) (nI (i9)).toNatClampNeg) ((u.1) ((2 : Int32)).toNatClampNeg)).toInt64)) : Int64) = j_8
        refine lv_lstore_n (lv' := [(1, .long (j_8)), (4, .int ((2 : Int32))), (0, .ref x), (3, .int (nI (i9)))]) hx hb dc_X6_digest_105 rfl hl (by decide) rfl (fun ls hl => ?_)
        refine lv_lload_n hx hb dc_X6_digest_106 rfl (lv_at hl 0 rfl) ?_
        refine lv_aload_n hx hb dc_X6_digest_107 rfl (lv_at hl 2 rfl) ?_
        refine va_get (D := G.1) (ci := 0) (v := .ref cs) (C := RX6) (T := TX6) (N := 6) hx hb hts ki_X6 hown hE.1 hP 0 rfl rfl 0 (by decide) (hts _ kw_1_98) (fun _ h9 => h9) rfl dc_X6_digest_108 ?_
        refine lv_iload_n hx hb dc_X6_digest_111 rfl (lv_at hl 3 rfl) ?_
        refine va_lald hx hb hE.1 hP 1 2 rfl rfl (vp_in_nI (by omega) (by omega)) dc_X6_digest_112 ?_
        refine lv_aload_n hx hb dc_X6_digest_113 rfl (lv_at hl 2 rfl) ?_
        refine va_get (D := G.1) (ci := 0) (v := .ref cs) (C := RX6) (T := TX6) (N := 6) hx hb hts ki_X6 hown hE.1 hP 0 rfl rfl 0 (by decide) (hts _ kw_1_98) (fun _ h9 => h9) rfl dc_X6_digest_114 ?_
        refine lv_iload hx hb dc_X6_digest_117 (lv_at hl 1 rfl) ?_
        refine va_lald hx hb hE.1 hP 1 2 rfl rfl (vp_in_iff.mpr (by decide)) dc_X6_digest_119 ?_
        refine ky_cS0 (As := [.long ((u.1) (nI (i9)).toNatClampNeg), .long ((u.1) ((2 : Int32)).toNatClampNeg)]) F (mt_X6_stepsBetween l ((u.1) (nI (i9)).toNatClampNeg) ((u.1) ((2 : Int32)).toNatClampNeg)) ks_X6_173 ⟨⟨rfl, rfl⟩, by decide, by decide⟩ rfl hl.1 rfl (Nat.le_of_ble_eq_true rfl) ⟨by show (_ : Nat) ≤ 56; omega, by show (_ : Nat) ≤ 1904; omega⟩ dc_X6_digest_120 ?_
        refine lv_i2l (v := (fn_X6_stepsBetween ((u.1) (nI (i9)).toNatClampNeg) ((u.1) ((2 : Int32)).toNatClampNeg)).toInt64) hx hb dc_X6_digest_123 rfl ?_
        refine ky_cS0 (As := [.long (j_8), .long ((fn_X6_stepsBetween ((u.1) (nI (i9)).toNatClampNeg) ((u.1) ((2 : Int32)).toNatClampNeg)).toInt64)]) F (mt_X6_mixed l (j_8) ((fn_X6_stepsBetween ((u.1) (nI (i9)).toNatClampNeg) ((u.1) ((2 : Int32)).toNatClampNeg)).toInt64)) ks_X6_199 ⟨⟨rfl, rfl⟩, by decide, by decide⟩ rfl hl.1 rfl (Nat.le_of_ble_eq_true rfl) ⟨by show (_ : Nat) ≤ 56; omega, by show (_ : Nat) ≤ 1904; omega⟩ dc_X6_digest_124 ?_
        generalize ((fn_X6_mixed (j_8) ((fn_X6_stepsBetween ((u.1) (nI (i9)).toNatClampNeg) ((u.1) ((2 : Int32)).toNatClampNeg)).toInt64)) : Int64) = j_9
        refine lv_lstore_n (lv' := [(1, .long (j_9)), (4, .int ((2 : Int32))), (0, .ref x), (3, .int (nI (i9)))]) hx hb dc_X6_digest_127 rfl hl (by decide) rfl (fun ls hl => ?_)
        refine lv_iinc (v := (3 : Int32)) (lv' := [(4, .int ((3 : Int32))), (1, .long (j_9)), (0, .ref x), (3, .int (nI (i9)))]) hx hb dc_X6_digest_128 hl (k := 1) rfl (by decide) (by decide) rfl (fun ls hl => ?_)
        refine lv_goto (tgt := 77) hx hb dc_X6_digest_131 (by decide) ?_
        refine lv_iload hx hb dc_X6_digest_77 (lv_at hl 0 rfl) ?_
        refine lv_bipush (v := 6) hx hb dc_X6_digest_79 (by decide) ?_
        refine lv_icmp_ge (tgt := 134) hx hb dc_X6_digest_81 (by decide) (fun c_10 => absurd c_10 (by decide)) (fun _ => ?_)
        refine lv_lload_n hx hb dc_X6_digest_84 rfl (lv_at hl 1 rfl) ?_
        refine lv_aload_n hx hb dc_X6_digest_85 rfl (lv_at hl 2 rfl) ?_
        refine va_get (D := G.1) (ci := 0) (v := .ref cs) (C := RX6) (T := TX6) (N := 6) hx hb hts ki_X6 hown hE.1 hP 0 rfl rfl 0 (by decide) (hts _ kw_1_98) (fun _ h9 => h9) rfl dc_X6_digest_86 ?_
        refine lv_iload_n hx hb dc_X6_digest_89 rfl (lv_at hl 3 rfl) ?_
        refine va_lald hx hb hE.1 hP 1 2 rfl rfl (vp_in_nI (by omega) (by omega)) dc_X6_digest_90 ?_
        refine lv_aload_n hx hb dc_X6_digest_91 rfl (lv_at hl 2 rfl) ?_
        refine va_get (D := G.1) (ci := 0) (v := .ref cs) (C := RX6) (T := TX6) (N := 6) hx hb hts ki_X6 hown hE.1 hP 0 rfl rfl 0 (by decide) (hts _ kw_1_98) (fun _ h9 => h9) rfl dc_X6_digest_92 ?_
        refine lv_iload hx hb dc_X6_digest_95 (lv_at hl 0 rfl) ?_
        refine va_lald hx hb hE.1 hP 1 2 rfl rfl (vp_in_iff.mpr (by decide)) dc_X6_digest_97 ?_
        refine ky_cS0 (As := [.long ((u.1) (nI (i9)).toNatClampNeg), .long ((u.1) ((3 : Int32)).toNatClampNeg)]) F (mt_X6_orderOf l ((u.1) (nI (i9)).toNatClampNeg) ((u.1) ((3 : Int32)).toNatClampNeg)) ks_X6_166 ⟨⟨rfl, rfl⟩, by decide, by decide⟩ rfl hl.1 rfl (Nat.le_of_ble_eq_true rfl) ⟨by show (_ : Nat) ≤ 56; omega, by show (_ : Nat) ≤ 1904; omega⟩ dc_X6_digest_98 ?_
        refine lv_i2l (v := (fn_X6_orderOf ((u.1) (nI (i9)).toNatClampNeg) ((u.1) ((3 : Int32)).toNatClampNeg)).toInt64) hx hb dc_X6_digest_101 rfl ?_
        refine ky_cS0 (As := [.long (j_9), .long ((fn_X6_orderOf ((u.1) (nI (i9)).toNatClampNeg) ((u.1) ((3 : Int32)).toNatClampNeg)).toInt64)]) F (mt_X6_mixed l (j_9) ((fn_X6_orderOf ((u.1) (nI (i9)).toNatClampNeg) ((u.1) ((3 : Int32)).toNatClampNeg)).toInt64)) ks_X6_199 ⟨⟨rfl, rfl⟩, by decide, by decide⟩ rfl hl.1 rfl (Nat.le_of_ble_eq_true rfl) ⟨by show (_ : Nat) ≤ 56; omega, by show (_ : Nat) ≤ 1904; omega⟩ dc_X6_digest_102 ?_
        generalize ((fn_X6_mixed (j_9) ((fn_X6_orderOf ((u.1) (nI (i9)).toNatClampNeg) ((u.1) ((3 : Int32)).toNatClampNeg)).toInt64)) : Int64) = j_11
        refine lv_lstore_n (lv' := [(1, .long (j_11)), (4, .int ((3 : Int32))), (0, .ref x), (3, .int (nI (i9)))]) hx hb dc_X6_digest_105 rfl hl (by decide) rfl (fun ls hl => ?_)
        refine lv_lload_n hx hb dc_X6_digest_106 rfl (lv_at hl 0 rfl) ?_
        refine lv_aload_n hx hb dc_X6_digest_107 rfl (lv_at hl 2 rfl) ?_
        refine va_get (D := G.1) (ci := 0) (v := .ref cs) (C := RX6) (T := TX6) (N := 6) hx hb hts ki_X6 hown hE.1 hP 0 rfl rfl 0 (by decide) (hts _ kw_1_98) (fun _ h9 => h9) rfl dc_X6_digest_108 ?_
        refine lv_iload_n hx hb dc_X6_digest_111 rfl (lv_at hl 3 rfl) ?_
        refine va_lald hx hb hE.1 hP 1 2 rfl rfl (vp_in_nI (by omega) (by omega)) dc_X6_digest_112 ?_
        refine lv_aload_n hx hb dc_X6_digest_113 rfl (lv_at hl 2 rfl) ?_
        refine va_get (D := G.1) (ci := 0) (v := .ref cs) (C := RX6) (T := TX6) (N := 6) hx hb hts ki_X6 hown hE.1 hP 0 rfl rfl 0 (by decide) (hts _ kw_1_98) (fun _ h9 => h9) rfl dc_X6_digest_114 ?_
        refine lv_iload hx hb dc_X6_digest_117 (lv_at hl 1 rfl) ?_
        refine va_lald hx hb hE.1 hP 1 2 rfl rfl (vp_in_iff.mpr (by decide)) dc_X6_digest_119 ?_
        refine ky_cS0 (As := [.long ((u.1) (nI (i9)).toNatClampNeg), .long ((u.1) ((3 : Int32)).toNatClampNeg)]) F (mt_X6_stepsBetween l ((u.1) (nI (i9)).toNatClampNeg) ((u.1) ((3 : Int32)).toNatClampNeg)) ks_X6_173 ⟨⟨rfl, rfl⟩, by decide, by decide⟩ rfl hl.1 rfl (Nat.le_of_ble_eq_true rfl) ⟨by show (_ : Nat) ≤ 56; omega, by show (_ : Nat) ≤ 1904; omega⟩ dc_X6_digest_120 ?_
        refine lv_i2l (v := (fn_X6_stepsBetween ((u.1) (nI (i9)).toNatClampNeg) ((u.1) ((3 : Int32)).toNatClampNeg)).toInt64) hx hb dc_X6_digest_123 rfl ?_
        refine ky_cS0 (As := [.long (j_11), .long ((fn_X6_stepsBetween ((u.1) (nI (i9)).toNatClampNeg) ((u.1) ((3 : Int32)).toNatClampNeg)).toInt64)]) F (mt_X6_mixed l (j_11) ((fn_X6_stepsBetween ((u.1) (nI (i9)).toNatClampNeg) ((u.1) ((3 : Int32)).toNatClampNeg)).toInt64)) ks_X6_199 ⟨⟨rfl, rfl⟩, by decide, by decide⟩ rfl hl.1 rfl (Nat.le_of_ble_eq_true rfl) ⟨by show (_ : Nat) ≤ 56; omega, by show (_ : Nat) ≤ 1904; omega⟩ dc_X6_digest_124 ?_
        generalize ((fn_X6_mixed (j_11) ((fn_X6_stepsBetween ((u.1) (nI (i9)).toNatClampNeg) ((u.1) ((3 : Int32)).toNatClampNeg)).toInt64)) : Int64) = j_12
        refine lv_lstore_n (lv' := [(1, .long (j_12)), (4, .int ((3 : Int32))), (0, .ref x), (3, .int (nI (i9)))]) hx hb dc_X6_digest_127 rfl hl (by decide) rfl (fun ls hl => ?_)
        refine lv_iinc (v := (4 : Int32)) (lv' := [(4, .int ((4 : Int32))), (1, .long (j_12)), (0, .ref x), (3, .int (nI (i9)))]) hx hb dc_X6_digest_128 hl (k := 1) rfl (by decide) (by decide) rfl (fun ls hl => ?_)
        refine lv_goto (tgt := 77) hx hb dc_X6_digest_131 (by decide) ?_
        refine lv_iload hx hb dc_X6_digest_77 (lv_at hl 0 rfl) ?_
        refine lv_bipush (v := 6) hx hb dc_X6_digest_79 (by decide) ?_
        refine lv_icmp_ge (tgt := 134) hx hb dc_X6_digest_81 (by decide) (fun c_13 => absurd c_13 (by decide)) (fun _ => ?_)
        refine lv_lload_n hx hb dc_X6_digest_84 rfl (lv_at hl 1 rfl) ?_
        refine lv_aload_n hx hb dc_X6_digest_85 rfl (lv_at hl 2 rfl) ?_
        refine va_get (D := G.1) (ci := 0) (v := .ref cs) (C := RX6) (T := TX6) (N := 6) hx hb hts ki_X6 hown hE.1 hP 0 rfl rfl 0 (by decide) (hts _ kw_1_98) (fun _ h9 => h9) rfl dc_X6_digest_86 ?_
        refine lv_iload_n hx hb dc_X6_digest_89 rfl (lv_at hl 3 rfl) ?_
        refine va_lald hx hb hE.1 hP 1 2 rfl rfl (vp_in_nI (by omega) (by omega)) dc_X6_digest_90 ?_
        refine lv_aload_n hx hb dc_X6_digest_91 rfl (lv_at hl 2 rfl) ?_
        refine va_get (D := G.1) (ci := 0) (v := .ref cs) (C := RX6) (T := TX6) (N := 6) hx hb hts ki_X6 hown hE.1 hP 0 rfl rfl 0 (by decide) (hts _ kw_1_98) (fun _ h9 => h9) rfl dc_X6_digest_92 ?_
        refine lv_iload hx hb dc_X6_digest_95 (lv_at hl 0 rfl) ?_
        refine va_lald hx hb hE.1 hP 1 2 rfl rfl (vp_in_iff.mpr (by decide)) dc_X6_digest_97 ?_
        refine ky_cS0 (As := [.long ((u.1) (nI (i9)).toNatClampNeg), .long ((u.1) ((4 : Int32)).toNatClampNeg)]) F (mt_X6_orderOf l ((u.1) (nI (i9)).toNatClampNeg) ((u.1) ((4 : Int32)).toNatClampNeg)) ks_X6_166 ⟨⟨rfl, rfl⟩, by decide, by decide⟩ rfl hl.1 rfl (Nat.le_of_ble_eq_true rfl) ⟨by show (_ : Nat) ≤ 56; omega, by show (_ : Nat) ≤ 1904; omega⟩ dc_X6_digest_98 ?_
        refine lv_i2l (v := (fn_X6_orderOf ((u.1) (nI (i9)).toNatClampNeg) ((u.1) ((4 : Int32)).toNatClampNeg)).toInt64) hx hb dc_X6_digest_101 rfl ?_
        refine ky_cS0 (As := [.long (j_12), .long ((fn_X6_orderOf ((u.1) (nI (i9)).toNatClampNeg) ((u.1) ((4 : Int32)).toNatClampNeg)).toInt64)]) F (mt_X6_mixed l (j_12) ((fn_X6_orderOf ((u.1) (nI (i9)).toNatClampNeg) ((u.1) ((4 : Int32)).toNatClampNeg)).toInt64)) ks_X6_199 ⟨⟨rfl, rfl⟩, by decide, by decide⟩ rfl hl.1 rfl (Nat.le_of_ble_eq_true rfl) ⟨by show (_ : Nat) ≤ 56; omega, by show (_ : Nat) ≤ 1904; omega⟩ dc_X6_digest_102 ?_
        generalize ((fn_X6_mixed (j_12) ((fn_X6_orderOf ((u.1) (nI (i9)).toNatClampNeg) ((u.1) ((4 : Int32)).toNatClampNeg)).toInt64)) : Int64) = j_14
        refine lv_lstore_n (lv' := [(1, .long (j_14)), (4, .int ((4 : Int32))), (0, .ref x), (3, .int (nI (i9)))]) hx hb dc_X6_digest_105 rfl hl (by decide) rfl (fun ls hl => ?_)
        refine lv_lload_n hx hb dc_X6_digest_106 rfl (lv_at hl 0 rfl) ?_
        refine lv_aload_n hx hb dc_X6_digest_107 rfl (lv_at hl 2 rfl) ?_
        refine va_get (D := G.1) (ci := 0) (v := .ref cs) (C := RX6) (T := TX6) (N := 6) hx hb hts ki_X6 hown hE.1 hP 0 rfl rfl 0 (by decide) (hts _ kw_1_98) (fun _ h9 => h9) rfl dc_X6_digest_108 ?_
        refine lv_iload_n hx hb dc_X6_digest_111 rfl (lv_at hl 3 rfl) ?_
        refine va_lald hx hb hE.1 hP 1 2 rfl rfl (vp_in_nI (by omega) (by omega)) dc_X6_digest_112 ?_
        refine lv_aload_n hx hb dc_X6_digest_113 rfl (lv_at hl 2 rfl) ?_
        refine va_get (D := G.1) (ci := 0) (v := .ref cs) (C := RX6) (T := TX6) (N := 6) hx hb hts ki_X6 hown hE.1 hP 0 rfl rfl 0 (by decide) (hts _ kw_1_98) (fun _ h9 => h9) rfl dc_X6_digest_114 ?_
        refine lv_iload hx hb dc_X6_digest_117 (lv_at hl 1 rfl) ?_
        refine va_lald hx hb hE.1 hP 1 2 rfl rfl (vp_in_iff.mpr (by decide)) dc_X6_digest_119 ?_
        refine ky_cS0 (As := [.long ((u.1) (nI (i9)).toNatClampNeg), .long ((u.1) ((4 : Int32)).toNatClampNeg)]) F (mt_X6_stepsBetween l ((u.1) (nI (i9)).toNatClampNeg) ((u.1) ((4 : Int32)).toNatClampNeg)) ks_X6_173 ⟨⟨rfl, rfl⟩, by decide, by decide⟩ rfl hl.1 rfl (Nat.le_of_ble_eq_true rfl) ⟨by show (_ : Nat) ≤ 56; omega, by show (_ : Nat) ≤ 1904; omega⟩ dc_X6_digest_120 ?_
        refine lv_i2l (v := (fn_X6_stepsBetween ((u.1) (nI (i9)).toNatClampNeg) ((u.1) ((4 : Int32)).toNatClampNeg)).toInt64) hx hb dc_X6_digest_123 rfl ?_
        refine ky_cS0 (As := [.long (j_14), .long ((fn_X6_stepsBetween ((u.1) (nI (i9)).toNatClampNeg) ((u.1) ((4 : Int32)).toNatClampNeg)).toInt64)]) F (mt_X6_mixed l (j_14) ((fn_X6_stepsBetween ((u.1) (nI (i9)).toNatClampNeg) ((u.1) ((4 : Int32)).toNatClampNeg)).toInt64)) ks_X6_199 ⟨⟨rfl, rfl⟩, by decide, by decide⟩ rfl hl.1 rfl (Nat.le_of_ble_eq_true rfl) ⟨by show (_ : Nat) ≤ 56; omega, by show (_ : Nat) ≤ 1904; omega⟩ dc_X6_digest_124 ?_
        generalize ((fn_X6_mixed (j_14) ((fn_X6_stepsBetween ((u.1) (nI (i9)).toNatClampNeg) ((u.1) ((4 : Int32)).toNatClampNeg)).toInt64)) : Int64) = j_15
        refine lv_lstore_n (lv' := [(1, .long (j_15)), (4, .int ((4 : Int32))), (0, .ref x), (3, .int (nI (i9)))]) hx hb dc_X6_digest_127 rfl hl (by decide) rfl (fun ls hl => ?_)
        refine lv_iinc (v := (5 : Int32)) (lv' := [(4, .int ((5 : Int32))), (1, .long (j_15)), (0, .ref x), (3, .int (nI (i9)))]) hx hb dc_X6_digest_128 hl (k := 1) rfl (by decide) (by decide) rfl (fun ls hl => ?_)
        refine lv_goto (tgt := 77) hx hb dc_X6_digest_131 (by decide) ?_
        refine lv_iload hx hb dc_X6_digest_77 (lv_at hl 0 rfl) ?_
        refine lv_bipush (v := 6) hx hb dc_X6_digest_79 (by decide) ?_
        refine lv_icmp_ge (tgt := 134) hx hb dc_X6_digest_81 (by decide) (fun c_16 => absurd c_16 (by decide)) (fun _ => ?_)
        refine lv_lload_n hx hb dc_X6_digest_84 rfl (lv_at hl 1 rfl) ?_
        refine lv_aload_n hx hb dc_X6_digest_85 rfl (lv_at hl 2 rfl) ?_
        refine va_get (D := G.1) (ci := 0) (v := .ref cs) (C := RX6) (T := TX6) (N := 6) hx hb hts ki_X6 hown hE.1 hP 0 rfl rfl 0 (by decide) (hts _ kw_1_98) (fun _ h9 => h9) rfl dc_X6_digest_86 ?_
        refine lv_iload_n hx hb dc_X6_digest_89 rfl (lv_at hl 3 rfl) ?_
        refine va_lald hx hb hE.1 hP 1 2 rfl rfl (vp_in_nI (by omega) (by omega)) dc_X6_digest_90 ?_
        refine lv_aload_n hx hb dc_X6_digest_91 rfl (lv_at hl 2 rfl) ?_
        refine va_get (D := G.1) (ci := 0) (v := .ref cs) (C := RX6) (T := TX6) (N := 6) hx hb hts ki_X6 hown hE.1 hP 0 rfl rfl 0 (by decide) (hts _ kw_1_98) (fun _ h9 => h9) rfl dc_X6_digest_92 ?_
        refine lv_iload hx hb dc_X6_digest_95 (lv_at hl 0 rfl) ?_
        refine va_lald hx hb hE.1 hP 1 2 rfl rfl (vp_in_iff.mpr (by decide)) dc_X6_digest_97 ?_
        refine ky_cS0 (As := [.long ((u.1) (nI (i9)).toNatClampNeg), .long ((u.1) ((5 : Int32)).toNatClampNeg)]) F (mt_X6_orderOf l ((u.1) (nI (i9)).toNatClampNeg) ((u.1) ((5 : Int32)).toNatClampNeg)) ks_X6_166 ⟨⟨rfl, rfl⟩, by decide, by decide⟩ rfl hl.1 rfl (Nat.le_of_ble_eq_true rfl) ⟨by show (_ : Nat) ≤ 56; omega, by show (_ : Nat) ≤ 1904; omega⟩ dc_X6_digest_98 ?_
        refine lv_i2l (v := (fn_X6_orderOf ((u.1) (nI (i9)).toNatClampNeg) ((u.1) ((5 : Int32)).toNatClampNeg)).toInt64) hx hb dc_X6_digest_101 rfl ?_
        refine ky_cS0 (As := [.long (j_15), .long ((fn_X6_orderOf ((u.1) (nI (i9)).toNatClampNeg) ((u.1) ((5 : Int32)).toNatClampNeg)).toInt64)]) F (mt_X6_mixed l (j_15) ((fn_X6_orderOf ((u.1) (nI (i9)).toNatClampNeg) ((u.1) ((5 : Int32)).toNatClampNeg)).toInt64)) ks_X6_199 ⟨⟨rfl, rfl⟩, by decide, by decide⟩ rfl hl.1 rfl (Nat.le_of_ble_eq_true rfl) ⟨by show (_ : Nat) ≤ 56; omega, by show (_ : Nat) ≤ 1904; omega⟩ dc_X6_digest_102 ?_
        generalize ((fn_X6_mixed (j_15) ((fn_X6_orderOf ((u.1) (nI (i9)).toNatClampNeg) ((u.1) ((5 : Int32)).toNatClampNeg)).toInt64)) : Int64) = j_17
        refine lv_lstore_n (lv' := [(1, .long (j_17)), (4, .int ((5 : Int32))), (0, .ref x), (3, .int (nI (i9)))]) hx hb dc_X6_digest_105 rfl hl (by decide) rfl (fun ls hl => ?_)
        refine lv_lload_n hx hb dc_X6_digest_106 rfl (lv_at hl 0 rfl) ?_
        refine lv_aload_n hx hb dc_X6_digest_107 rfl (lv_at hl 2 rfl) ?_
        refine va_get (D := G.1) (ci := 0) (v := .ref cs) (C := RX6) (T := TX6) (N := 6) hx hb hts ki_X6 hown hE.1 hP 0 rfl rfl 0 (by decide) (hts _ kw_1_98) (fun _ h9 => h9) rfl dc_X6_digest_108 ?_
        refine lv_iload_n hx hb dc_X6_digest_111 rfl (lv_at hl 3 rfl) ?_
        refine va_lald hx hb hE.1 hP 1 2 rfl rfl (vp_in_nI (by omega) (by omega)) dc_X6_digest_112 ?_
        refine lv_aload_n hx hb dc_X6_digest_113 rfl (lv_at hl 2 rfl) ?_
        refine va_get (D := G.1) (ci := 0) (v := .ref cs) (C := RX6) (T := TX6) (N := 6) hx hb hts ki_X6 hown hE.1 hP 0 rfl rfl 0 (by decide) (hts _ kw_1_98) (fun _ h9 => h9) rfl dc_X6_digest_114 ?_
        refine lv_iload hx hb dc_X6_digest_117 (lv_at hl 1 rfl) ?_
        refine va_lald hx hb hE.1 hP 1 2 rfl rfl (vp_in_iff.mpr (by decide)) dc_X6_digest_119 ?_
        refine ky_cS0 (As := [.long ((u.1) (nI (i9)).toNatClampNeg), .long ((u.1) ((5 : Int32)).toNatClampNeg)]) F (mt_X6_stepsBetween l ((u.1) (nI (i9)).toNatClampNeg) ((u.1) ((5 : Int32)).toNatClampNeg)) ks_X6_173 ⟨⟨rfl, rfl⟩, by decide, by decide⟩ rfl hl.1 rfl (Nat.le_of_ble_eq_true rfl) ⟨by show (_ : Nat) ≤ 56; omega, by show (_ : Nat) ≤ 1904; omega⟩ dc_X6_digest_120 ?_
        refine lv_i2l (v := (fn_X6_stepsBetween ((u.1) (nI (i9)).toNatClampNeg) ((u.1) ((5 : Int32)).toNatClampNeg)).toInt64) hx hb dc_X6_digest_123 rfl ?_
        refine ky_cS0 (As := [.long (j_17), .long ((fn_X6_stepsBetween ((u.1) (nI (i9)).toNatClampNeg) ((u.1) ((5 : Int32)).toNatClampNeg)).toInt64)]) F (mt_X6_mixed l (j_17) ((fn_X6_stepsBetween ((u.1) (nI (i9)).toNatClampNeg) ((u.1) ((5 : Int32)).toNatClampNeg)).toInt64)) ks_X6_199 ⟨⟨rfl, rfl⟩, by decide, by decide⟩ rfl hl.1 rfl (Nat.le_of_ble_eq_true rfl) ⟨by show (_ : Nat) ≤ 56; omega, by show (_ : Nat) ≤ 1904; omega⟩ dc_X6_digest_124 ?_
        generalize ((fn_X6_mixed (j_17) ((fn_X6_stepsBetween ((u.1) (nI (i9)).toNatClampNeg) ((u.1) ((5 : Int32)).toNatClampNeg)).toInt64)) : Int64) = j_18
        refine lv_lstore_n (lv' := [(1, .long (j_18)), (4, .int ((5 : Int32))), (0, .ref x), (3, .int (nI (i9)))]) hx hb dc_X6_digest_127 rfl hl (by decide) rfl (fun ls hl => ?_)
        refine lv_iinc (v := (6 : Int32)) (lv' := [(4, .int ((6 : Int32))), (1, .long (j_18)), (0, .ref x), (3, .int (nI (i9)))]) hx hb dc_X6_digest_128 hl (k := 1) rfl (by decide) (by decide) rfl (fun ls hl => ?_)
        refine lv_goto (tgt := 77) hx hb dc_X6_digest_131 (by decide) ?_
        refine lv_iload hx hb dc_X6_digest_77 (lv_at hl 0 rfl) ?_
        refine lv_bipush (v := 6) hx hb dc_X6_digest_79 (by decide) ?_
        refine lv_icmp_ge (tgt := 134) hx hb dc_X6_digest_81 (by decide) (fun _ => ?_) (fun c_19 => absurd c_19 (by decide))
        refine lv_iinc (v := nI (i9 + 1)) (lv' := [(3, .int (nI (i9 + 1))), (4, .int ((6 : Int32))), (1, .long (j_18)), (0, .ref x)]) hx hb dc_X6_digest_134 hl (k := 3) rfl (nI_1 _) (by decide) rfl (fun ls hl => ?_)
        refine lv_goto (tgt := 68) hx hb dc_X6_digest_137 (by decide) ?_
        refine W.widen (k := 54) (n := 1836) (by first | exact Nat.le_refl _ | omega | exact Nat.zero_le _) (by first | exact Nat.le_refl _ | omega | exact Nat.zero_le _) ?_
        exact ih (i9 + 1) (tq.1, tq.2.1, tq.2.2.1, tq.2.2.2.1, tq.2.2.2.2.1, tq.2.2.2.2.2) j_18 (by omega) (by omega) ⟨hq9.1, hq9.2.1, hq9.2.2.1, hq9.2.2.2⟩ _ _ (hP.sub (ws' := [(x, .inr (0, [.ref cs, .ref sc, .ref pf, .int (u.2.1), .int (u.2.2.1), .int (u.2.2.2)])), (cs, .inl (G.2.1 2, 6, .inr (.inl (u.1)))), (sc, .inr (1, [.ref b, .ref fg])), (fg, .inl (G.2.1 1, 19, .inl (tq.2.2.2.2.2))), (b, .inr (6, [.ref tq.1, .int (0), .int (tq.2.2.2.2.1), .int (nI (tq.2.2.1))])), (tq.1, .inl (G.2.1 0, tq.2.1, .inl (tq.2.2.2.1))), (pf, .inr (2, [.ref tk])), (tk, .inl (G.2.1 4, 8, .inr (.inr (.inr (.inr (fun j => if j < 8 then some (r j) else none)))))), ((r 0), .inl (G.2.1 2, 6, .inr (.inl (g 0)))), ((r 1), .inl (G.2.1 2, 6, .inr (.inl (g 1)))), ((r 2), .inl (G.2.1 2, 6, .inr (.inl (g 2)))), ((r 3), .inl (G.2.1 2, 6, .inr (.inl (g 3)))), ((r 4), .inl (G.2.1 2, 6, .inr (.inl (g 4)))), ((r 5), .inl (G.2.1 2, 6, .inr (.inl (g 5)))), ((r 6), .inl (G.2.1 2, 6, .inr (.inl (g 6)))), ((r 7), .inl (G.2.1 2, 6, .inr (.inl (g 7))))]) [0, 1, 2, 3, 4, 5, 6, 7, 8, 9, 10, 11, 12, 13, 14, 15] rfl) (hD.sub (ws' := [(x, .inr (0, [.ref cs, .ref sc, .ref pf, .int (u.2.1), .int (u.2.2.1), .int (u.2.2.2)])), (cs, .inl (G.2.1 2, 6, .inr (.inl (u.1)))), (sc, .inr (1, [.ref b, .ref fg])), (fg, .inl (G.2.1 1, 19, .inl (tq.2.2.2.2.2))), (b, .inr (6, [.ref tq.1, .int (0), .int (tq.2.2.2.2.1), .int (nI (tq.2.2.1))])), (tq.1, .inl (G.2.1 0, tq.2.1, .inl (tq.2.2.2.1))), (pf, .inr (2, [.ref tk])), (tk, .inl (G.2.1 4, 8, .inr (.inr (.inr (.inr (fun j => if j < 8 then some (r j) else none)))))), ((r 0), .inl (G.2.1 2, 6, .inr (.inl (g 0)))), ((r 1), .inl (G.2.1 2, 6, .inr (.inl (g 1)))), ((r 2), .inl (G.2.1 2, 6, .inr (.inl (g 2)))), ((r 3), .inl (G.2.1 2, 6, .inr (.inl (g 3)))), ((r 4), .inl (G.2.1 2, 6, .inr (.inl (g 4)))), ((r 5), .inl (G.2.1 2, 6, .inr (.inl (g 5)))), ((r 6), .inl (G.2.1 2, 6, .inr (.inl (g 6)))), ((r 7), .inl (G.2.1 2, 6, .inr (.inl (g 7))))]) [0, 1, 2, 3, 4, 5, 6, 7, 8, 9, 10, 11, 12, 13, 14, 15] (by decide) rfl) hS  _ (lv_sub hl [3, 2, 0] rfl)
set_option linter.constructorNameAsVariable false in
set_option maxHeartbeats 4000000 in
set_option maxRecDepth 100000 in
theorem ml_X6_digest_L30 {p : Program} {l : Launch} {e : Env} {s : State} {m : MethodId} {args : Array Value} {below : List Frame} {meth : Method} {c : Code} {G : ky_G} {A : Nat → Prop} {x : Nat} {cs : Nat} {sc : Nat} {pf : Nat} {u : ky_BS} {fg : Nat} {b : Nat} {t9 : ky_SV} {tk : Nat} {r : Nat → Nat} {g : Nat → Nat → Int64} (F : ky_F p s m meth c my_X6_digest.cls prog_1_method_54_code 5 (some .long) args) (hE : ky_E G s) (hA : ∀ q, s.heap.size ≤ q → A q) (hfr : ∀ q, A q → ky_fr G q)   : ∀ (n9 : Nat) (k9 : Nat) (tq : ky_SV) (sm : Int64) (h9 : k9 ≤ 6) (hn9 : 6 - k9 < n9) (hq9 : ky_sok tq) (H : Heap) (locs : List Loc), va_P G.1 kcl [(x, .inr (0, [.ref cs, .ref sc, .ref pf, .int (u.2.1), .int (u.2.2.1), .int (u.2.2.2)])), (cs, .inl (G.2.1 2, 6, .inr (.inl (u.1)))), (sc, .inr (1, [.ref b, .ref fg])), (fg, .inl (G.2.1 1, 19, .inl (tq.2.2.2.2.2))), (b, .inr (6, [.ref tq.1, .int (0), .int (tq.2.2.2.2.1), .int (nI (tq.2.2.1))])), (tq.1, .inl (G.2.1 0, tq.2.1, .inl (tq.2.2.2.1))), (pf, .inr (2, [.ref tk])), (tk, .inl (G.2.1 4, 8, .inr (.inr (.inr (.inr (fun j => if j < 8 then some (r j) else none)))))), ((r 0), .inl (G.2.1 2, 6, .inr (.inl (g 0)))), ((r 1), .inl (G.2.1 2, 6, .inr (.inl (g 1)))), ((r 2), .inl (G.2.1 2, 6, .inr (.inl (g 2)))), ((r 3), .inl (G.2.1 2, 6, .inr (.inl (g 3)))), ((r 4), .inl (G.2.1 2, 6, .inr (.inl (g 4)))), ((r 5), .inl (G.2.1 2, 6, .inr (.inl (g 5)))), ((r 6), .inl (G.2.1 2, 6, .inr (.inl (g 6)))), ((r 7), .inl (G.2.1 2, 6, .inr (.inl (g 7))))] H → va_D A [(x, .inr (0, [.ref cs, .ref sc, .ref pf, .int (u.2.1), .int (u.2.2.1), .int (u.2.2.2)])), (cs, .inl (G.2.1 2, 6, .inr (.inl (u.1)))), (sc, .inr (1, [.ref b, .ref fg])), (fg, .inl (G.2.1 1, 19, .inl (tq.2.2.2.2.2))), (b, .inr (6, [.ref tq.1, .int (0), .int (tq.2.2.2.2.1), .int (nI (tq.2.2.1))])), (tq.1, .inl (G.2.1 0, tq.2.1, .inl (tq.2.2.2.1))), (pf, .inr (2, [.ref tk])), (tk, .inl (G.2.1 4, 8, .inr (.inr (.inr (.inr (fun j => if j < 8 then some (r j) else none)))))), ((r 0), .inl (G.2.1 2, 6, .inr (.inl (g 0)))), ((r 1), .inl (G.2.1 2, 6, .inr (.inl (g 1)))), ((r 2), .inl (G.2.1 2, 6, .inr (.inl (g 2)))), ((r 3), .inl (G.2.1 2, 6, .inr (.inl (g 3)))), ((r 4), .inl (G.2.1 2, 6, .inr (.inl (g 4)))), ((r 5), .inl (G.2.1 2, 6, .inr (.inl (g 5)))), ((r 6), .inl (G.2.1 2, 6, .inr (.inl (g 6)))), ((r 7), .inl (G.2.1 2, 6, .inr (.inl (g 7))))] → va_S A s.heap H locs →  ∀ ls : Array Slot, lv_has ls 5 [(0, .ref x), (1, .long (sm)), (3, .int (nI (k9)))] → W p l e { frames := 11, cells := 56, slots := 1904, locals := 251 } s m args below meth c H locs (9 * k9) (306 * k9) (MQ below (ky_Q (S := ky_SV × (Nat → Nat → Int64)) G A (fun v w => (∃ z : Int64, v = some (.long z)) ∧ ky_sok w.1) (fun w => ky_WB G x cs sc pf u ++ (ky_WS G sc fg b w.1 ++ ky_WPf G pf tk r w.2)) (fun _ _ => True)) args s (56) (1904) A) (F0 m 30 ls []) := by
  obtain ⟨hx, hb, hml, hown, hr, hlocks, hts⟩ := id F
  intro n9
  induction n9 with
  | zero => intro k9 tq sm h9 hn9 hq9; exact False.elim (by omega)
  | succ n9 ih =>
      intro k9 tq sm h9 hn9 hq9 H locs hP hD hS  ls hl
      refine lv_iload_n hx hb dc_X6_digest_30 rfl (lv_at hl 2 rfl) ?_
      refine lv_bipush (v := 6) hx hb dc_X6_digest_31 (by decide) ?_
      refine lv_icmp_ge (tgt := 66) hx hb dc_X6_digest_33 (by decide) (fun c_0 => ?_) (fun c_0 => ?_)
      · skip
        refine lv_iconst (v := 0) hx hb dc_X6_digest_66 (by decide) ?_
        refine lv_istore_n (lv' := [(3, .int ((0 : Int32))), (0, .ref x), (1, .long (sm))]) hx hb dc_X6_digest_67 rfl hl (by decide) rfl (fun ls hl => ?_)
        refine W.widen (k := 54) (n := 1836) (by first | exact Nat.le_refl _ | omega | exact Nat.zero_le _) (by first | exact Nat.le_refl _ | omega | exact Nat.zero_le _) ?_
        exact ml_X6_digest_L68 (x := x) (cs := cs) (sc := sc) (pf := pf) (u := u) (fg := fg) (b := b) (t9 := t9) (tk := tk) (r := r) (g := g) F hE hA hfr   (7) 0 (tq.1, tq.2.1, tq.2.2.1, tq.2.2.2.1, tq.2.2.2.2.1, tq.2.2.2.2.2) sm (by omega) (by omega) ⟨hq9.1, hq9.2.1, hq9.2.2.1, hq9.2.2.2⟩ _ _ (hP.sub (ws' := [(x, .inr (0, [.ref cs, .ref sc, .ref pf, .int (u.2.1), .int (u.2.2.1), .int (u.2.2.2)])), (cs, .inl (G.2.1 2, 6, .inr (.inl (u.1)))), (sc, .inr (1, [.ref b, .ref fg])), (fg, .inl (G.2.1 1, 19, .inl (tq.2.2.2.2.2))), (b, .inr (6, [.ref tq.1, .int (0), .int (tq.2.2.2.2.1), .int (nI (tq.2.2.1))])), (tq.1, .inl (G.2.1 0, tq.2.1, .inl (tq.2.2.2.1))), (pf, .inr (2, [.ref tk])), (tk, .inl (G.2.1 4, 8, .inr (.inr (.inr (.inr (fun j => if j < 8 then some (r j) else none)))))), ((r 0), .inl (G.2.1 2, 6, .inr (.inl (g 0)))), ((r 1), .inl (G.2.1 2, 6, .inr (.inl (g 1)))), ((r 2), .inl (G.2.1 2, 6, .inr (.inl (g 2)))), ((r 3), .inl (G.2.1 2, 6, .inr (.inl (g 3)))), ((r 4), .inl (G.2.1 2, 6, .inr (.inl (g 4)))), ((r 5), .inl (G.2.1 2, 6, .inr (.inl (g 5)))), ((r 6), .inl (G.2.1 2, 6, .inr (.inl (g 6)))), ((r 7), .inl (G.2.1 2, 6, .inr (.inl (g 7))))]) [0, 1, 2, 3, 4, 5, 6, 7, 8, 9, 10, 11, 12, 13, 14, 15] rfl) (hD.sub (ws' := [(x, .inr (0, [.ref cs, .ref sc, .ref pf, .int (u.2.1), .int (u.2.2.1), .int (u.2.2.2)])), (cs, .inl (G.2.1 2, 6, .inr (.inl (u.1)))), (sc, .inr (1, [.ref b, .ref fg])), (fg, .inl (G.2.1 1, 19, .inl (tq.2.2.2.2.2))), (b, .inr (6, [.ref tq.1, .int (0), .int (tq.2.2.2.2.1), .int (nI (tq.2.2.1))])), (tq.1, .inl (G.2.1 0, tq.2.1, .inl (tq.2.2.2.1))), (pf, .inr (2, [.ref tk])), (tk, .inl (G.2.1 4, 8, .inr (.inr (.inr (.inr (fun j => if j < 8 then some (r j) else none)))))), ((r 0), .inl (G.2.1 2, 6, .inr (.inl (g 0)))), ((r 1), .inl (G.2.1 2, 6, .inr (.inl (g 1)))), ((r 2), .inl (G.2.1 2, 6, .inr (.inl (g 2)))), ((r 3), .inl (G.2.1 2, 6, .inr (.inl (g 3)))), ((r 4), .inl (G.2.1 2, 6, .inr (.inl (g 4)))), ((r 5), .inl (G.2.1 2, 6, .inr (.inl (g 5)))), ((r 6), .inl (G.2.1 2, 6, .inr (.inl (g 6)))), ((r 7), .inl (G.2.1 2, 6, .inr (.inl (g 7))))]) [0, 1, 2, 3, 4, 5, 6, 7, 8, 9, 10, 11, 12, 13, 14, 15] (by decide) rfl) hS  _ (lv_sub hl [1, 2, 0] rfl)
      · skip
        have h9k9 : ¬ 6 ≤ k9 := fun z => c_0 ((nI_leI (a := 6) (b := k9) (by omega) (by omega)).mpr z)
        refine lv_aload_n hx hb dc_X6_digest_36 rfl (lv_at hl 0 rfl) ?_
        refine lv_lload_n hx hb dc_X6_digest_37 rfl (lv_at hl 1 rfl) ?_
        refine lv_aload_n hx hb dc_X6_digest_38 rfl (lv_at hl 0 rfl) ?_
        refine va_get (D := G.1) (ci := 0) (v := .ref cs) (C := RX6) (T := TX6) (N := 6) hx hb hts ki_X6 hown hE.1 hP 0 rfl rfl 0 (by decide) (hts _ kw_1_98) (fun _ h9 => h9) rfl dc_X6_digest_39 ?_
        refine lv_iload_n hx hb dc_X6_digest_42 rfl (lv_at hl 2 rfl) ?_
        refine va_lald hx hb hE.1 hP 1 2 rfl rfl (vp_in_nI (by omega) (by omega)) dc_X6_digest_43 ?_
        refine ky_cVh (As := [.long (sm), .long ((u.1) (nI (k9)).toNatClampNeg)]) (wr := [(pf, .inr (2, [.ref tk])), (tk, .inl (G.2.1 4, 8, .inr (.inr (.inr (.inr (fun j => if j < 8 then some (r j) else none)))))), ((r 0), .inl (G.2.1 2, 6, .inr (.inl (g 0)))), ((r 1), .inl (G.2.1 2, 6, .inr (.inl (g 1)))), ((r 2), .inl (G.2.1 2, 6, .inr (.inl (g 2)))), ((r 3), .inl (G.2.1 2, 6, .inr (.inl (g 3)))), ((r 4), .inl (G.2.1 2, 6, .inr (.inl (g 4)))), ((r 5), .inl (G.2.1 2, 6, .inr (.inl (g 5)))), ((r 6), .inl (G.2.1 2, 6, .inr (.inl (g 6)))), ((r 7), .inl (G.2.1 2, 6, .inr (.inl (g 7))))]) F (hE.at hfr hS) hfr (mt_X6_mixedAnswers l G x cs sc pf u fg b (tq.1, tq.2.1, tq.2.2.1, tq.2.2.2.1, tq.2.2.2.2.1, tq.2.2.2.2.2) sm ((u.1) (nI (k9)).toNatClampNeg) H.size ⟨hq9.1, hq9.2.1, hq9.2.2.1, hq9.2.2.2⟩) kv_X6_202 ⟨⟨rfl, rfl⟩, Nat.le_of_ble_eq_true rfl, Nat.le_of_ble_eq_true rfl⟩ rfl hl.1 rfl (Nat.le_of_ble_eq_true rfl) ⟨by show (_ : Nat) ≤ 56; omega, by show (_ : Nat) ≤ 1904; omega⟩ (va_recv hE.1 hP (ci := 0) (q0 := 0) rfl rfl) trivial hP hD hS hA [0, 1, 2, 3, 4, 5] [6, 7, 8, 9, 10, 11, 12, 13, 14, 15] rfl rfl (by decide) (by decide) (by decide) dc_X6_digest_44 ?_
        rintro v9 t_1 H locs ⟨⟨z_1, rfl⟩, ht_1⟩ hP hD hS - hz hk9
        have hP : va_P G.1 kcl [(pf, .inr (2, [.ref tk])), (tk, .inl (G.2.1 4, 8, .inr (.inr (.inr (.inr (fun j => if j < 8 then some (r j) else none)))))), ((r 0), .inl (G.2.1 2, 6, .inr (.inl (g 0)))), ((r 1), .inl (G.2.1 2, 6, .inr (.inl (g 1)))), ((r 2), .inl (G.2.1 2, 6, .inr (.inl (g 2)))), ((r 3), .inl (G.2.1 2, 6, .inr (.inl (g 3)))), ((r 4), .inl (G.2.1 2, 6, .inr (.inl (g 4)))), ((r 5), .inl (G.2.1 2, 6, .inr (.inl (g 5)))), ((r 6), .inl (G.2.1 2, 6, .inr (.inl (g 6)))), ((r 7), .inl (G.2.1 2, 6, .inr (.inl (g 7)))), (x, .inr (0, [.ref cs, .ref sc, .ref pf, .int (u.2.1), .int (u.2.2.1), .int (u.2.2.2)])), (cs, .inl (G.2.1 2, 6, .inr (.inl (u.1)))), (sc, .inr (1, [.ref b, .ref fg])), (fg, .inl (G.2.1 1, 19, .inl (t_1.2.2.2.2.2))), (b, .inr (6, [.ref t_1.1, .int (0), .int (t_1.2.2.2.2.1), .int (nI (t_1.2.2.1))])), (t_1.1, .inl (G.2.1 0, t_1.2.1, .inl (t_1.2.2.2.1)))] H := hP
        have hD : va_D A [(pf, .inr (2, [.ref tk])), (tk, .inl (G.2.1 4, 8, .inr (.inr (.inr (.inr (fun j => if j < 8 then some (r j) else none)))))), ((r 0), .inl (G.2.1 2, 6, .inr (.inl (g 0)))), ((r 1), .inl (G.2.1 2, 6, .inr (.inl (g 1)))), ((r 2), .inl (G.2.1 2, 6, .inr (.inl (g 2)))), ((r 3), .inl (G.2.1 2, 6, .inr (.inl (g 3)))), ((r 4), .inl (G.2.1 2, 6, .inr (.inl (g 4)))), ((r 5), .inl (G.2.1 2, 6, .inr (.inl (g 5)))), ((r 6), .inl (G.2.1 2, 6, .inr (.inl (g 6)))), ((r 7), .inl (G.2.1 2, 6, .inr (.inl (g 7)))), (x, .inr (0, [.ref cs, .ref sc, .ref pf, .int (u.2.1), .int (u.2.2.1), .int (u.2.2.2)])), (cs, .inl (G.2.1 2, 6, .inr (.inl (u.1)))), (sc, .inr (1, [.ref b, .ref fg])), (fg, .inl (G.2.1 1, 19, .inl (t_1.2.2.2.2.2))), (b, .inr (6, [.ref t_1.1, .int (0), .int (t_1.2.2.2.2.1), .int (nI (t_1.2.2.1))])), (t_1.1, .inl (G.2.1 0, t_1.2.1, .inl (t_1.2.2.2.1)))] := hD
        refine W.widen (k := 9 * k9 + 3) (n := 306 * k9 + 102) (by first | exact Nat.le_refl _ | omega) (by first | exact Nat.le_refl _ | omega) ?_
        refine lv_lstore_n (lv' := [(1, .long (z_1)), (0, .ref x), (3, .int (nI (k9)))]) hx hb dc_X6_digest_47 rfl hl (by decide) rfl (fun ls hl => ?_)
        refine lv_aload_n hx hb dc_X6_digest_48 rfl (lv_at hl 1 rfl) ?_
        refine lv_lload_n hx hb dc_X6_digest_49 rfl (lv_at hl 0 rfl) ?_
        refine lv_aload_n hx hb dc_X6_digest_50 rfl (lv_at hl 1 rfl) ?_
        refine va_get (D := G.1) (ci := 0) (v := .ref cs) (C := RX6) (T := TX6) (N := 6) hx hb hts ki_X6 hown hE.1 hP 10 rfl rfl 0 (by decide) (hts _ kw_1_98) (fun _ h9 => h9) rfl dc_X6_digest_51 ?_
        refine lv_iload_n hx hb dc_X6_digest_54 rfl (lv_at hl 2 rfl) ?_
        refine va_lald hx hb hE.1 hP 11 2 rfl rfl (vp_in_nI (by omega) (by omega)) dc_X6_digest_55 ?_
        refine ky_cVh (As := [.long (z_1), .long ((u.1) (nI (k9)).toNatClampNeg)]) (wr := [(pf, .inr (2, [.ref tk])), (tk, .inl (G.2.1 4, 8, .inr (.inr (.inr (.inr (fun j => if j < 8 then some (r j) else none)))))), ((r 0), .inl (G.2.1 2, 6, .inr (.inl (g 0)))), ((r 1), .inl (G.2.1 2, 6, .inr (.inl (g 1)))), ((r 2), .inl (G.2.1 2, 6, .inr (.inl (g 2)))), ((r 3), .inl (G.2.1 2, 6, .inr (.inl (g 3)))), ((r 4), .inl (G.2.1 2, 6, .inr (.inl (g 4)))), ((r 5), .inl (G.2.1 2, 6, .inr (.inl (g 5)))), ((r 6), .inl (G.2.1 2, 6, .inr (.inl (g 6)))), ((r 7), .inl (G.2.1 2, 6, .inr (.inl (g 7))))]) F (hE.at hfr hS) hfr (mt_X6_mixedTexts l G x cs sc pf u fg b (t_1.1, t_1.2.1, t_1.2.2.1, t_1.2.2.2.1, t_1.2.2.2.2.1, t_1.2.2.2.2.2) z_1 ((u.1) (nI (k9)).toNatClampNeg) H.size ⟨ht_1.1, ht_1.2.1, ht_1.2.2.1, ht_1.2.2.2⟩) kv_X6_205 ⟨⟨rfl, rfl⟩, Nat.le_of_ble_eq_true rfl, Nat.le_of_ble_eq_true rfl⟩ rfl hl.1 rfl (Nat.le_of_ble_eq_true rfl) ⟨by show (_ : Nat) ≤ 56; omega, by show (_ : Nat) ≤ 1904; omega⟩ (va_recv hE.1 hP (ci := 0) (q0 := 10) rfl rfl) trivial hP hD hS hA [10, 11, 12, 13, 14, 15] [0, 1, 2, 3, 4, 5, 6, 7, 8, 9] rfl rfl (by decide) (by decide) (by decide) dc_X6_digest_56 ?_
        rintro v9 t_2 H locs ⟨⟨z_2, rfl⟩, ht_2⟩ hP hD hS - hz hk9
        have hP : va_P G.1 kcl [(pf, .inr (2, [.ref tk])), (tk, .inl (G.2.1 4, 8, .inr (.inr (.inr (.inr (fun j => if j < 8 then some (r j) else none)))))), ((r 0), .inl (G.2.1 2, 6, .inr (.inl (g 0)))), ((r 1), .inl (G.2.1 2, 6, .inr (.inl (g 1)))), ((r 2), .inl (G.2.1 2, 6, .inr (.inl (g 2)))), ((r 3), .inl (G.2.1 2, 6, .inr (.inl (g 3)))), ((r 4), .inl (G.2.1 2, 6, .inr (.inl (g 4)))), ((r 5), .inl (G.2.1 2, 6, .inr (.inl (g 5)))), ((r 6), .inl (G.2.1 2, 6, .inr (.inl (g 6)))), ((r 7), .inl (G.2.1 2, 6, .inr (.inl (g 7)))), (x, .inr (0, [.ref cs, .ref sc, .ref pf, .int (u.2.1), .int (u.2.2.1), .int (u.2.2.2)])), (cs, .inl (G.2.1 2, 6, .inr (.inl (u.1)))), (sc, .inr (1, [.ref b, .ref fg])), (fg, .inl (G.2.1 1, 19, .inl (t_2.2.2.2.2.2))), (b, .inr (6, [.ref t_2.1, .int (0), .int (t_2.2.2.2.2.1), .int (nI (t_2.2.2.1))])), (t_2.1, .inl (G.2.1 0, t_2.2.1, .inl (t_2.2.2.2.1)))] H := hP
        have hD : va_D A [(pf, .inr (2, [.ref tk])), (tk, .inl (G.2.1 4, 8, .inr (.inr (.inr (.inr (fun j => if j < 8 then some (r j) else none)))))), ((r 0), .inl (G.2.1 2, 6, .inr (.inl (g 0)))), ((r 1), .inl (G.2.1 2, 6, .inr (.inl (g 1)))), ((r 2), .inl (G.2.1 2, 6, .inr (.inl (g 2)))), ((r 3), .inl (G.2.1 2, 6, .inr (.inl (g 3)))), ((r 4), .inl (G.2.1 2, 6, .inr (.inl (g 4)))), ((r 5), .inl (G.2.1 2, 6, .inr (.inl (g 5)))), ((r 6), .inl (G.2.1 2, 6, .inr (.inl (g 6)))), ((r 7), .inl (G.2.1 2, 6, .inr (.inl (g 7)))), (x, .inr (0, [.ref cs, .ref sc, .ref pf, .int (u.2.1), .int (u.2.2.1), .int (u.2.2.2)])), (cs, .inl (G.2.1 2, 6, .inr (.inl (u.1)))), (sc, .inr (1, [.ref b, .ref fg])), (fg, .inl (G.2.1 1, 19, .inl (t_2.2.2.2.2.2))), (b, .inr (6, [.ref t_2.1, .int (0), .int (t_2.2.2.2.2.1), .int (nI (t_2.2.2.1))])), (t_2.1, .inl (G.2.1 0, t_2.2.1, .inl (t_2.2.2.2.1)))] := hD
        refine W.widen (k := 9 * k9 + 3 + 6) (n := 306 * k9 + 102 + 204) (by first | exact Nat.le_refl _ | omega) (by first | exact Nat.le_refl _ | omega) ?_
        refine lv_lstore_n (lv' := [(1, .long (z_2)), (0, .ref x), (3, .int (nI (k9)))]) hx hb dc_X6_digest_59 rfl hl (by decide) rfl (fun ls hl => ?_)
        refine lv_iinc (v := nI (k9 + 1)) (lv' := [(3, .int (nI (k9 + 1))), (1, .long (z_2)), (0, .ref x)]) hx hb dc_X6_digest_60 hl (k := 2) rfl (nI_1 _) (by decide) rfl (fun ls hl => ?_)
        refine lv_goto (tgt := 30) hx hb dc_X6_digest_63 (by decide) ?_
        refine W.widen (k := 9 * (k9 + 1)) (n := 306 * (k9 + 1)) (by first | exact Nat.le_refl _ | omega | exact Nat.zero_le _) (by first | exact Nat.le_refl _ | omega | exact Nat.zero_le _) ?_
        exact ih (k9 + 1) (t_2.1, t_2.2.1, t_2.2.2.1, t_2.2.2.2.1, t_2.2.2.2.2.1, t_2.2.2.2.2.2) z_2 (by omega) (by omega) ⟨ht_2.1, ht_2.2.1, ht_2.2.2.1, ht_2.2.2.2⟩ _ _ (hP.sub (ws' := [(x, .inr (0, [.ref cs, .ref sc, .ref pf, .int (u.2.1), .int (u.2.2.1), .int (u.2.2.2)])), (cs, .inl (G.2.1 2, 6, .inr (.inl (u.1)))), (sc, .inr (1, [.ref b, .ref fg])), (fg, .inl (G.2.1 1, 19, .inl (t_2.2.2.2.2.2))), (b, .inr (6, [.ref t_2.1, .int (0), .int (t_2.2.2.2.2.1), .int (nI (t_2.2.2.1))])), (t_2.1, .inl (G.2.1 0, t_2.2.1, .inl (t_2.2.2.2.1))), (pf, .inr (2, [.ref tk])), (tk, .inl (G.2.1 4, 8, .inr (.inr (.inr (.inr (fun j => if j < 8 then some (r j) else none)))))), ((r 0), .inl (G.2.1 2, 6, .inr (.inl (g 0)))), ((r 1), .inl (G.2.1 2, 6, .inr (.inl (g 1)))), ((r 2), .inl (G.2.1 2, 6, .inr (.inl (g 2)))), ((r 3), .inl (G.2.1 2, 6, .inr (.inl (g 3)))), ((r 4), .inl (G.2.1 2, 6, .inr (.inl (g 4)))), ((r 5), .inl (G.2.1 2, 6, .inr (.inl (g 5)))), ((r 6), .inl (G.2.1 2, 6, .inr (.inl (g 6)))), ((r 7), .inl (G.2.1 2, 6, .inr (.inl (g 7))))]) [10, 11, 12, 13, 14, 15, 0, 1, 2, 3, 4, 5, 6, 7, 8, 9] rfl) (hD.sub (ws' := [(x, .inr (0, [.ref cs, .ref sc, .ref pf, .int (u.2.1), .int (u.2.2.1), .int (u.2.2.2)])), (cs, .inl (G.2.1 2, 6, .inr (.inl (u.1)))), (sc, .inr (1, [.ref b, .ref fg])), (fg, .inl (G.2.1 1, 19, .inl (t_2.2.2.2.2.2))), (b, .inr (6, [.ref t_2.1, .int (0), .int (t_2.2.2.2.2.1), .int (nI (t_2.2.2.1))])), (t_2.1, .inl (G.2.1 0, t_2.2.1, .inl (t_2.2.2.2.1))), (pf, .inr (2, [.ref tk])), (tk, .inl (G.2.1 4, 8, .inr (.inr (.inr (.inr (fun j => if j < 8 then some (r j) else none)))))), ((r 0), .inl (G.2.1 2, 6, .inr (.inl (g 0)))), ((r 1), .inl (G.2.1 2, 6, .inr (.inl (g 1)))), ((r 2), .inl (G.2.1 2, 6, .inr (.inl (g 2)))), ((r 3), .inl (G.2.1 2, 6, .inr (.inl (g 3)))), ((r 4), .inl (G.2.1 2, 6, .inr (.inl (g 4)))), ((r 5), .inl (G.2.1 2, 6, .inr (.inl (g 5)))), ((r 6), .inl (G.2.1 2, 6, .inr (.inl (g 6)))), ((r 7), .inl (G.2.1 2, 6, .inr (.inl (g 7))))]) [10, 11, 12, 13, 14, 15, 0, 1, 2, 3, 4, 5, 6, 7, 8, 9] (by decide) rfl) hS  _ (lv_sub hl [2, 1, 0] rfl)
set_option linter.constructorNameAsVariable false in
set_option maxHeartbeats 4000000 in
set_option maxRecDepth 100000 in
theorem mt_X6_digest (l : Launch) (G : ky_G) (x : Nat) (cs : Nat) (sc : Nat) (pf : Nat) (u : ky_BS) (fg : Nat) (b : Nat) (t9 : ky_SV) (tk : Nat) (r : Nat → Nat) (g : Nat → Nat → Int64) (sz : Nat) (ht : ky_sok t9) : Met l my_X6_digest (.code my_X6_digest prog_1_method_54_code 5 (some .long) :: ky_B) { frames := 11, cells := 56, slots := 1904, locals := 251 } (ky_P G [.ref x] (ky_WB G x cs sc pf u ++ (ky_WS G sc fg b t9 ++ ky_WPf G pf tk r g)) sz (fun _ => True)) (ky_Q (S := ky_SV × (Nat → Nat → Int64)) G (va_A (ky_WB G x cs sc pf u ++ (ky_WS G sc fg b t9 ++ ky_WPf G pf tk r g)) sz) (fun v w => (∃ z : Int64, v = some (.long z)) ∧ ky_sok w.1) (fun w => ky_WB G x cs sc pf u ++ (ky_WS G sc fg b w.1 ++ ky_WPf G pf tk r w.2)) (fun _ _ => True)) (56) (1904) (va_A (ky_WB G x cs sc pf u ++ (ky_WS G sc fg b t9 ++ ky_WPf G pf tk r g)) sz) := by
  refine ky_start (by decide) (Nat.le_of_ble_eq_true rfl) (fun p e s m below meth c F hE A hAe hsz hA hfr hP hD hS hX ls hl => ?_)
  obtain ⟨hx, hb, hml, hown, hr, hlocks, hts⟩ := id F
  have hl : lv_has ls 5 [(0, .ref x)] := hl
  have hP : va_P G.1 kcl [(x, .inr (0, [.ref cs, .ref sc, .ref pf, .int (u.2.1), .int (u.2.2.1), .int (u.2.2.2)])), (cs, .inl (G.2.1 2, 6, .inr (.inl (u.1)))), (sc, .inr (1, [.ref b, .ref fg])), (fg, .inl (G.2.1 1, 19, .inl (t9.2.2.2.2.2))), (b, .inr (6, [.ref t9.1, .int (0), .int (t9.2.2.2.2.1), .int (nI (t9.2.2.1))])), (t9.1, .inl (G.2.1 0, t9.2.1, .inl (t9.2.2.2.1))), (pf, .inr (2, [.ref tk])), (tk, .inl (G.2.1 4, 8, .inr (.inr (.inr (.inr (fun j => if j < 8 then some (r j) else none)))))), ((r 0), .inl (G.2.1 2, 6, .inr (.inl (g 0)))), ((r 1), .inl (G.2.1 2, 6, .inr (.inl (g 1)))), ((r 2), .inl (G.2.1 2, 6, .inr (.inl (g 2)))), ((r 3), .inl (G.2.1 2, 6, .inr (.inl (g 3)))), ((r 4), .inl (G.2.1 2, 6, .inr (.inl (g 4)))), ((r 5), .inl (G.2.1 2, 6, .inr (.inl (g 5)))), ((r 6), .inl (G.2.1 2, 6, .inr (.inl (g 6)))), ((r 7), .inl (G.2.1 2, 6, .inr (.inl (g 7))))] s.heap := hP
  have hD : va_D A [(x, .inr (0, [.ref cs, .ref sc, .ref pf, .int (u.2.1), .int (u.2.2.1), .int (u.2.2.2)])), (cs, .inl (G.2.1 2, 6, .inr (.inl (u.1)))), (sc, .inr (1, [.ref b, .ref fg])), (fg, .inl (G.2.1 1, 19, .inl (t9.2.2.2.2.2))), (b, .inr (6, [.ref t9.1, .int (0), .int (t9.2.2.2.2.1), .int (nI (t9.2.2.1))])), (t9.1, .inl (G.2.1 0, t9.2.1, .inl (t9.2.2.2.1))), (pf, .inr (2, [.ref tk])), (tk, .inl (G.2.1 4, 8, .inr (.inr (.inr (.inr (fun j => if j < 8 then some (r j) else none)))))), ((r 0), .inl (G.2.1 2, 6, .inr (.inl (g 0)))), ((r 1), .inl (G.2.1 2, 6, .inr (.inl (g 1)))), ((r 2), .inl (G.2.1 2, 6, .inr (.inl (g 2)))), ((r 3), .inl (G.2.1 2, 6, .inr (.inl (g 3)))), ((r 4), .inl (G.2.1 2, 6, .inr (.inl (g 4)))), ((r 5), .inl (G.2.1 2, 6, .inr (.inl (g 5)))), ((r 6), .inl (G.2.1 2, 6, .inr (.inl (g 6)))), ((r 7), .inl (G.2.1 2, 6, .inr (.inl (g 7))))] := hD
  refine lv_ldc2 (v := 7794) hx hb hown (hts _ kw_3_219) dc_X6_digest_0 ?_
  refine lv_lstore_n (lv' := [(1, .long ((7794 : Int64))), (0, .ref x)]) hx hb dc_X6_digest_3 rfl hl (by decide) rfl (fun ls hl => ?_)
  refine lv_iconst (v := 0) hx hb dc_X6_digest_4 (by decide) ?_
  refine lv_istore_n (lv' := [(3, .int ((0 : Int32))), (1, .long ((7794 : Int64))), (0, .ref x)]) hx hb dc_X6_digest_5 rfl hl (by decide) rfl (fun ls hl => ?_)
  refine lv_iload_n hx hb dc_X6_digest_6 rfl (lv_at hl 0 rfl) ?_
  refine lv_iconst (v := 3) hx hb dc_X6_digest_7 (by decide) ?_
  refine lv_icmp_gt (tgt := 28) hx hb dc_X6_digest_8 (by decide) (fun c_0 => absurd c_0 (by decide)) (fun _ => ?_)
  refine lv_lload_n hx hb dc_X6_digest_11 rfl (lv_at hl 1 rfl) ?_
  refine lv_aload_n hx hb dc_X6_digest_12 rfl (lv_at hl 2 rfl) ?_
  refine lv_iload_n hx hb dc_X6_digest_13 rfl (lv_at hl 0 rfl) ?_
  refine ky_cVh (As := [.int ((0 : Int32))]) (wr := [(sc, .inr (1, [.ref b, .ref fg])), (fg, .inl (G.2.1 1, 19, .inl (t9.2.2.2.2.2))), (b, .inr (6, [.ref t9.1, .int (0), .int (t9.2.2.2.2.1), .int (nI (t9.2.2.1))])), (t9.1, .inl (G.2.1 0, t9.2.1, .inl (t9.2.2.2.1))), (pf, .inr (2, [.ref tk])), (tk, .inl (G.2.1 4, 8, .inr (.inr (.inr (.inr (fun j => if j < 8 then some (r j) else none)))))), ((r 0), .inl (G.2.1 2, 6, .inr (.inl (g 0)))), ((r 1), .inl (G.2.1 2, 6, .inr (.inl (g 1)))), ((r 2), .inl (G.2.1 2, 6, .inr (.inl (g 2)))), ((r 3), .inl (G.2.1 2, 6, .inr (.inl (g 3)))), ((r 4), .inl (G.2.1 2, 6, .inr (.inl (g 4)))), ((r 5), .inl (G.2.1 2, 6, .inr (.inl (g 5)))), ((r 6), .inl (G.2.1 2, 6, .inr (.inl (g 6)))), ((r 7), .inl (G.2.1 2, 6, .inr (.inl (g 7))))]) F (hE.at hfr hS) hfr (mt_X6_countOfJ l G (x) (cs) (sc) (pf) (u) ((0 : Int32)) s.heap.size ) kv_X6_189 ⟨⟨rfl, rfl⟩, by decide, by decide⟩ rfl hl.1 rfl (Nat.le_of_ble_eq_true rfl) ⟨by show (_ : Nat) ≤ 56; omega, by show (_ : Nat) ≤ 1904; omega⟩ (va_recv hE.1 hP (ci := 0) (q0 := 0) rfl rfl) trivial hP hD hS hA [0, 1] [2, 3, 4, 5, 6, 7, 8, 9, 10, 11, 12, 13, 14, 15] rfl rfl (by decide) (by decide) (by decide) dc_X6_digest_14 ?_
  rintro v9 u9 H locs ⟨rfl, hu9⟩ hP hD hS - hz hk9
  have hu9 := hu9.symm
  subst hu9
  have hP : va_P G.1 kcl [(sc, .inr (1, [.ref b, .ref fg])), (fg, .inl (G.2.1 1, 19, .inl (t9.2.2.2.2.2))), (b, .inr (6, [.ref t9.1, .int (0), .int (t9.2.2.2.2.1), .int (nI (t9.2.2.1))])), (t9.1, .inl (G.2.1 0, t9.2.1, .inl (t9.2.2.2.1))), (pf, .inr (2, [.ref tk])), (tk, .inl (G.2.1 4, 8, .inr (.inr (.inr (.inr (fun j => if j < 8 then some (r j) else none)))))), ((r 0), .inl (G.2.1 2, 6, .inr (.inl (g 0)))), ((r 1), .inl (G.2.1 2, 6, .inr (.inl (g 1)))), ((r 2), .inl (G.2.1 2, 6, .inr (.inl (g 2)))), ((r 3), .inl (G.2.1 2, 6, .inr (.inl (g 3)))), ((r 4), .inl (G.2.1 2, 6, .inr (.inl (g 4)))), ((r 5), .inl (G.2.1 2, 6, .inr (.inl (g 5)))), ((r 6), .inl (G.2.1 2, 6, .inr (.inl (g 6)))), ((r 7), .inl (G.2.1 2, 6, .inr (.inl (g 7)))), (x, .inr (0, [.ref cs, .ref sc, .ref pf, .int (u.2.1), .int (u.2.2.1), .int (u.2.2.2)])), (cs, .inl (G.2.1 2, 6, .inr (.inl (u.1))))] H := hP
  have hD : va_D A [(sc, .inr (1, [.ref b, .ref fg])), (fg, .inl (G.2.1 1, 19, .inl (t9.2.2.2.2.2))), (b, .inr (6, [.ref t9.1, .int (0), .int (t9.2.2.2.2.1), .int (nI (t9.2.2.1))])), (t9.1, .inl (G.2.1 0, t9.2.1, .inl (t9.2.2.2.1))), (pf, .inr (2, [.ref tk])), (tk, .inl (G.2.1 4, 8, .inr (.inr (.inr (.inr (fun j => if j < 8 then some (r j) else none)))))), ((r 0), .inl (G.2.1 2, 6, .inr (.inl (g 0)))), ((r 1), .inl (G.2.1 2, 6, .inr (.inl (g 1)))), ((r 2), .inl (G.2.1 2, 6, .inr (.inl (g 2)))), ((r 3), .inl (G.2.1 2, 6, .inr (.inl (g 3)))), ((r 4), .inl (G.2.1 2, 6, .inr (.inl (g 4)))), ((r 5), .inl (G.2.1 2, 6, .inr (.inl (g 5)))), ((r 6), .inl (G.2.1 2, 6, .inr (.inl (g 6)))), ((r 7), .inl (G.2.1 2, 6, .inr (.inl (g 7)))), (x, .inr (0, [.ref cs, .ref sc, .ref pf, .int (u.2.1), .int (u.2.2.1), .int (u.2.2.2)])), (cs, .inl (G.2.1 2, 6, .inr (.inl (u.1))))] := hD
  refine W.widen (k := 0) (n := 0) (Nat.le_refl _) (Nat.le_refl _) ?_
  refine lv_i2l (v := ((fn_X6_countOf ((0 : Int32)) u).1).toInt64) hx hb dc_X6_digest_17 rfl ?_
  refine ky_cS0 (As := [.long ((7794 : Int64)), .long (((fn_X6_countOf ((0 : Int32)) u).1).toInt64)]) F (mt_X6_mixed l ((7794 : Int64)) (((fn_X6_countOf ((0 : Int32)) u).1).toInt64)) ks_X6_199 ⟨⟨rfl, rfl⟩, by decide, by decide⟩ rfl hl.1 rfl (Nat.le_of_ble_eq_true rfl) ⟨by show (_ : Nat) ≤ 56; omega, by show (_ : Nat) ≤ 1904; omega⟩ dc_X6_digest_18 ?_
  generalize ((fn_X6_mixed ((7794 : Int64)) (((fn_X6_countOf ((0 : Int32)) u).1).toInt64)) : Int64) = j_2
  refine lv_lstore_n (lv' := [(1, .long (j_2)), (3, .int ((0 : Int32))), (0, .ref x)]) hx hb dc_X6_digest_21 rfl hl (by decide) rfl (fun ls hl => ?_)
  refine lv_iinc (v := (1 : Int32)) (lv' := [(3, .int ((1 : Int32))), (1, .long (j_2)), (0, .ref x)]) hx hb dc_X6_digest_22 hl (k := 1) rfl (by decide) (by decide) rfl (fun ls hl => ?_)
  refine lv_goto (tgt := 6) hx hb dc_X6_digest_25 (by decide) ?_
  refine lv_iload_n hx hb dc_X6_digest_6 rfl (lv_at hl 0 rfl) ?_
  refine lv_iconst (v := 3) hx hb dc_X6_digest_7 (by decide) ?_
  refine lv_icmp_gt (tgt := 28) hx hb dc_X6_digest_8 (by decide) (fun c_3 => absurd c_3 (by decide)) (fun _ => ?_)
  refine lv_lload_n hx hb dc_X6_digest_11 rfl (lv_at hl 1 rfl) ?_
  refine lv_aload_n hx hb dc_X6_digest_12 rfl (lv_at hl 2 rfl) ?_
  refine lv_iload_n hx hb dc_X6_digest_13 rfl (lv_at hl 0 rfl) ?_
  refine ky_cVh (As := [.int ((1 : Int32))]) (wr := [(sc, .inr (1, [.ref b, .ref fg])), (fg, .inl (G.2.1 1, 19, .inl (t9.2.2.2.2.2))), (b, .inr (6, [.ref t9.1, .int (0), .int (t9.2.2.2.2.1), .int (nI (t9.2.2.1))])), (t9.1, .inl (G.2.1 0, t9.2.1, .inl (t9.2.2.2.1))), (pf, .inr (2, [.ref tk])), (tk, .inl (G.2.1 4, 8, .inr (.inr (.inr (.inr (fun j => if j < 8 then some (r j) else none)))))), ((r 0), .inl (G.2.1 2, 6, .inr (.inl (g 0)))), ((r 1), .inl (G.2.1 2, 6, .inr (.inl (g 1)))), ((r 2), .inl (G.2.1 2, 6, .inr (.inl (g 2)))), ((r 3), .inl (G.2.1 2, 6, .inr (.inl (g 3)))), ((r 4), .inl (G.2.1 2, 6, .inr (.inl (g 4)))), ((r 5), .inl (G.2.1 2, 6, .inr (.inl (g 5)))), ((r 6), .inl (G.2.1 2, 6, .inr (.inl (g 6)))), ((r 7), .inl (G.2.1 2, 6, .inr (.inl (g 7))))]) F (hE.at hfr hS) hfr (mt_X6_countOfJ l G (x) (cs) (sc) (pf) (u) ((1 : Int32)) H.size ) kv_X6_189 ⟨⟨rfl, rfl⟩, by decide, by decide⟩ rfl hl.1 rfl (Nat.le_of_ble_eq_true rfl) ⟨by show (_ : Nat) ≤ 56; omega, by show (_ : Nat) ≤ 1904; omega⟩ (va_recv hE.1 hP (ci := 0) (q0 := 14) rfl rfl) trivial hP hD hS hA [14, 15] [0, 1, 2, 3, 4, 5, 6, 7, 8, 9, 10, 11, 12, 13] rfl rfl (by decide) (by decide) (by decide) dc_X6_digest_14 ?_
  rintro v9 u9 H locs ⟨rfl, hu9⟩ hP hD hS - hz hk9
  have hu9 := hu9.symm
  subst hu9
  have hP : va_P G.1 kcl [(sc, .inr (1, [.ref b, .ref fg])), (fg, .inl (G.2.1 1, 19, .inl (t9.2.2.2.2.2))), (b, .inr (6, [.ref t9.1, .int (0), .int (t9.2.2.2.2.1), .int (nI (t9.2.2.1))])), (t9.1, .inl (G.2.1 0, t9.2.1, .inl (t9.2.2.2.1))), (pf, .inr (2, [.ref tk])), (tk, .inl (G.2.1 4, 8, .inr (.inr (.inr (.inr (fun j => if j < 8 then some (r j) else none)))))), ((r 0), .inl (G.2.1 2, 6, .inr (.inl (g 0)))), ((r 1), .inl (G.2.1 2, 6, .inr (.inl (g 1)))), ((r 2), .inl (G.2.1 2, 6, .inr (.inl (g 2)))), ((r 3), .inl (G.2.1 2, 6, .inr (.inl (g 3)))), ((r 4), .inl (G.2.1 2, 6, .inr (.inl (g 4)))), ((r 5), .inl (G.2.1 2, 6, .inr (.inl (g 5)))), ((r 6), .inl (G.2.1 2, 6, .inr (.inl (g 6)))), ((r 7), .inl (G.2.1 2, 6, .inr (.inl (g 7)))), (x, .inr (0, [.ref cs, .ref sc, .ref pf, .int (u.2.1), .int (u.2.2.1), .int (u.2.2.2)])), (cs, .inl (G.2.1 2, 6, .inr (.inl (u.1))))] H := hP
  have hD : va_D A [(sc, .inr (1, [.ref b, .ref fg])), (fg, .inl (G.2.1 1, 19, .inl (t9.2.2.2.2.2))), (b, .inr (6, [.ref t9.1, .int (0), .int (t9.2.2.2.2.1), .int (nI (t9.2.2.1))])), (t9.1, .inl (G.2.1 0, t9.2.1, .inl (t9.2.2.2.1))), (pf, .inr (2, [.ref tk])), (tk, .inl (G.2.1 4, 8, .inr (.inr (.inr (.inr (fun j => if j < 8 then some (r j) else none)))))), ((r 0), .inl (G.2.1 2, 6, .inr (.inl (g 0)))), ((r 1), .inl (G.2.1 2, 6, .inr (.inl (g 1)))), ((r 2), .inl (G.2.1 2, 6, .inr (.inl (g 2)))), ((r 3), .inl (G.2.1 2, 6, .inr (.inl (g 3)))), ((r 4), .inl (G.2.1 2, 6, .inr (.inl (g 4)))), ((r 5), .inl (G.2.1 2, 6, .inr (.inl (g 5)))), ((r 6), .inl (G.2.1 2, 6, .inr (.inl (g 6)))), ((r 7), .inl (G.2.1 2, 6, .inr (.inl (g 7)))), (x, .inr (0, [.ref cs, .ref sc, .ref pf, .int (u.2.1), .int (u.2.2.1), .int (u.2.2.2)])), (cs, .inl (G.2.1 2, 6, .inr (.inl (u.1))))] := hD
  refine W.widen (k := 0) (n := 0) (Nat.le_refl _) (Nat.le_refl _) ?_
  refine lv_i2l (v := ((fn_X6_countOf ((1 : Int32)) u).1).toInt64) hx hb dc_X6_digest_17 rfl ?_
  refine ky_cS0 (As := [.long (j_2), .long (((fn_X6_countOf ((1 : Int32)) u).1).toInt64)]) F (mt_X6_mixed l (j_2) (((fn_X6_countOf ((1 : Int32)) u).1).toInt64)) ks_X6_199 ⟨⟨rfl, rfl⟩, by decide, by decide⟩ rfl hl.1 rfl (Nat.le_of_ble_eq_true rfl) ⟨by show (_ : Nat) ≤ 56; omega, by show (_ : Nat) ≤ 1904; omega⟩ dc_X6_digest_18 ?_
  generalize ((fn_X6_mixed (j_2) (((fn_X6_countOf ((1 : Int32)) u).1).toInt64)) : Int64) = j_5
  refine lv_lstore_n (lv' := [(1, .long (j_5)), (3, .int ((1 : Int32))), (0, .ref x)]) hx hb dc_X6_digest_21 rfl hl (by decide) rfl (fun ls hl => ?_)
  refine lv_iinc (v := (2 : Int32)) (lv' := [(3, .int ((2 : Int32))), (1, .long (j_5)), (0, .ref x)]) hx hb dc_X6_digest_22 hl (k := 1) rfl (by decide) (by decide) rfl (fun ls hl => ?_)
  refine lv_goto (tgt := 6) hx hb dc_X6_digest_25 (by decide) ?_
  refine lv_iload_n hx hb dc_X6_digest_6 rfl (lv_at hl 0 rfl) ?_
  refine lv_iconst (v := 3) hx hb dc_X6_digest_7 (by decide) ?_
  refine lv_icmp_gt (tgt := 28) hx hb dc_X6_digest_8 (by decide) (fun c_6 => absurd c_6 (by decide)) (fun _ => ?_)
  refine lv_lload_n hx hb dc_X6_digest_11 rfl (lv_at hl 1 rfl) ?_
  refine lv_aload_n hx hb dc_X6_digest_12 rfl (lv_at hl 2 rfl) ?_
  refine lv_iload_n hx hb dc_X6_digest_13 rfl (lv_at hl 0 rfl) ?_
  refine ky_cVh (As := [.int ((2 : Int32))]) (wr := [(sc, .inr (1, [.ref b, .ref fg])), (fg, .inl (G.2.1 1, 19, .inl (t9.2.2.2.2.2))), (b, .inr (6, [.ref t9.1, .int (0), .int (t9.2.2.2.2.1), .int (nI (t9.2.2.1))])), (t9.1, .inl (G.2.1 0, t9.2.1, .inl (t9.2.2.2.1))), (pf, .inr (2, [.ref tk])), (tk, .inl (G.2.1 4, 8, .inr (.inr (.inr (.inr (fun j => if j < 8 then some (r j) else none)))))), ((r 0), .inl (G.2.1 2, 6, .inr (.inl (g 0)))), ((r 1), .inl (G.2.1 2, 6, .inr (.inl (g 1)))), ((r 2), .inl (G.2.1 2, 6, .inr (.inl (g 2)))), ((r 3), .inl (G.2.1 2, 6, .inr (.inl (g 3)))), ((r 4), .inl (G.2.1 2, 6, .inr (.inl (g 4)))), ((r 5), .inl (G.2.1 2, 6, .inr (.inl (g 5)))), ((r 6), .inl (G.2.1 2, 6, .inr (.inl (g 6)))), ((r 7), .inl (G.2.1 2, 6, .inr (.inl (g 7))))]) F (hE.at hfr hS) hfr (mt_X6_countOfJ l G (x) (cs) (sc) (pf) (u) ((2 : Int32)) H.size ) kv_X6_189 ⟨⟨rfl, rfl⟩, by decide, by decide⟩ rfl hl.1 rfl (Nat.le_of_ble_eq_true rfl) ⟨by show (_ : Nat) ≤ 56; omega, by show (_ : Nat) ≤ 1904; omega⟩ (va_recv hE.1 hP (ci := 0) (q0 := 14) rfl rfl) trivial hP hD hS hA [14, 15] [0, 1, 2, 3, 4, 5, 6, 7, 8, 9, 10, 11, 12, 13] rfl rfl (by decide) (by decide) (by decide) dc_X6_digest_14 ?_
  rintro v9 u9 H locs ⟨rfl, hu9⟩ hP hD hS - hz hk9
  have hu9 := hu9.symm
  subst hu9
  have hP : va_P G.1 kcl [(sc, .inr (1, [.ref b, .ref fg])), (fg, .inl (G.2.1 1, 19, .inl (t9.2.2.2.2.2))), (b, .inr (6, [.ref t9.1, .int (0), .int (t9.2.2.2.2.1), .int (nI (t9.2.2.1))])), (t9.1, .inl (G.2.1 0, t9.2.1, .inl (t9.2.2.2.1))), (pf, .inr (2, [.ref tk])), (tk, .inl (G.2.1 4, 8, .inr (.inr (.inr (.inr (fun j => if j < 8 then some (r j) else none)))))), ((r 0), .inl (G.2.1 2, 6, .inr (.inl (g 0)))), ((r 1), .inl (G.2.1 2, 6, .inr (.inl (g 1)))), ((r 2), .inl (G.2.1 2, 6, .inr (.inl (g 2)))), ((r 3), .inl (G.2.1 2, 6, .inr (.inl (g 3)))), ((r 4), .inl (G.2.1 2, 6, .inr (.inl (g 4)))), ((r 5), .inl (G.2.1 2, 6, .inr (.inl (g 5)))), ((r 6), .inl (G.2.1 2, 6, .inr (.inl (g 6)))), ((r 7), .inl (G.2.1 2, 6, .inr (.inl (g 7)))), (x, .inr (0, [.ref cs, .ref sc, .ref pf, .int (u.2.1), .int (u.2.2.1), .int (u.2.2.2)])), (cs, .inl (G.2.1 2, 6, .inr (.inl (u.1))))] H := hP
  have hD : va_D A [(sc, .inr (1, [.ref b, .ref fg])), (fg, .inl (G.2.1 1, 19, .inl (t9.2.2.2.2.2))), (b, .inr (6, [.ref t9.1, .int (0), .int (t9.2.2.2.2.1), .int (nI (t9.2.2.1))])), (t9.1, .inl (G.2.1 0, t9.2.1, .inl (t9.2.2.2.1))), (pf, .inr (2, [.ref tk])), (tk, .inl (G.2.1 4, 8, .inr (.inr (.inr (.inr (fun j => if j < 8 then some (r j) else none)))))), ((r 0), .inl (G.2.1 2, 6, .inr (.inl (g 0)))), ((r 1), .inl (G.2.1 2, 6, .inr (.inl (g 1)))), ((r 2), .inl (G.2.1 2, 6, .inr (.inl (g 2)))), ((r 3), .inl (G.2.1 2, 6, .inr (.inl (g 3)))), ((r 4), .inl (G.2.1 2, 6, .inr (.inl (g 4)))), ((r 5), .inl (G.2.1 2, 6, .inr (.inl (g 5)))), ((r 6), .inl (G.2.1 2, 6, .inr (.inl (g 6)))), ((r 7), .inl (G.2.1 2, 6, .inr (.inl (g 7)))), (x, .inr (0, [.ref cs, .ref sc, .ref pf, .int (u.2.1), .int (u.2.2.1), .int (u.2.2.2)])), (cs, .inl (G.2.1 2, 6, .inr (.inl (u.1))))] := hD
  refine W.widen (k := 0) (n := 0) (Nat.le_refl _) (Nat.le_refl _) ?_
  refine lv_i2l (v := ((fn_X6_countOf ((2 : Int32)) u).1).toInt64) hx hb dc_X6_digest_17 rfl ?_
  refine ky_cS0 (As := [.long (j_5), .long (((fn_X6_countOf ((2 : Int32)) u).1).toInt64)]) F (mt_X6_mixed l (j_5) (((fn_X6_countOf ((2 : Int32)) u).1).toInt64)) ks_X6_199 ⟨⟨rfl, rfl⟩, by decide, by decide⟩ rfl hl.1 rfl (Nat.le_of_ble_eq_true rfl) ⟨by show (_ : Nat) ≤ 56; omega, by show (_ : Nat) ≤ 1904; omega⟩ dc_X6_digest_18 ?_
  generalize ((fn_X6_mixed (j_5) (((fn_X6_countOf ((2 : Int32)) u).1).toInt64)) : Int64) = j_8
  refine lv_lstore_n (lv' := [(1, .long (j_8)), (3, .int ((2 : Int32))), (0, .ref x)]) hx hb dc_X6_digest_21 rfl hl (by decide) rfl (fun ls hl => ?_)
  refine lv_iinc (v := (3 : Int32)) (lv' := [(3, .int ((3 : Int32))), (1, .long (j_8)), (0, .ref x)]) hx hb dc_X6_digest_22 hl (k := 1) rfl (by decide) (by decide) rfl (fun ls hl => ?_)
  refine lv_goto (tgt := 6) hx hb dc_X6_digest_25 (by decide) ?_
  refine lv_iload_n hx hb dc_X6_digest_6 rfl (lv_at hl 0 rfl) ?_
  refine lv_iconst (v := 3) hx hb dc_X6_digest_7 (by decide) ?_
  refine lv_icmp_gt (tgt := 28) hx hb dc_X6_digest_8 (by decide) (fun c_9 => absurd c_9 (by decide)) (fun _ => ?_)
  refine lv_lload_n hx hb dc_X6_digest_11 rfl (lv_at hl 1 rfl) ?_
  refine lv_aload_n hx hb dc_X6_digest_12 rfl (lv_at hl 2 rfl) ?_
  refine lv_iload_n hx hb dc_X6_digest_13 rfl (lv_at hl 0 rfl) ?_
  refine ky_cVh (As := [.int ((3 : Int32))]) (wr := [(sc, .inr (1, [.ref b, .ref fg])), (fg, .inl (G.2.1 1, 19, .inl (t9.2.2.2.2.2))), (b, .inr (6, [.ref t9.1, .int (0), .int (t9.2.2.2.2.1), .int (nI (t9.2.2.1))])), (t9.1, .inl (G.2.1 0, t9.2.1, .inl (t9.2.2.2.1))), (pf, .inr (2, [.ref tk])), (tk, .inl (G.2.1 4, 8, .inr (.inr (.inr (.inr (fun j => if j < 8 then some (r j) else none)))))), ((r 0), .inl (G.2.1 2, 6, .inr (.inl (g 0)))), ((r 1), .inl (G.2.1 2, 6, .inr (.inl (g 1)))), ((r 2), .inl (G.2.1 2, 6, .inr (.inl (g 2)))), ((r 3), .inl (G.2.1 2, 6, .inr (.inl (g 3)))), ((r 4), .inl (G.2.1 2, 6, .inr (.inl (g 4)))), ((r 5), .inl (G.2.1 2, 6, .inr (.inl (g 5)))), ((r 6), .inl (G.2.1 2, 6, .inr (.inl (g 6)))), ((r 7), .inl (G.2.1 2, 6, .inr (.inl (g 7))))]) F (hE.at hfr hS) hfr (mt_X6_countOfJ l G (x) (cs) (sc) (pf) (u) ((3 : Int32)) H.size ) kv_X6_189 ⟨⟨rfl, rfl⟩, by decide, by decide⟩ rfl hl.1 rfl (Nat.le_of_ble_eq_true rfl) ⟨by show (_ : Nat) ≤ 56; omega, by show (_ : Nat) ≤ 1904; omega⟩ (va_recv hE.1 hP (ci := 0) (q0 := 14) rfl rfl) trivial hP hD hS hA [14, 15] [0, 1, 2, 3, 4, 5, 6, 7, 8, 9, 10, 11, 12, 13] rfl rfl (by decide) (by decide) (by decide) dc_X6_digest_14 ?_
  rintro v9 u9 H locs ⟨rfl, hu9⟩ hP hD hS - hz hk9
  have hu9 := hu9.symm
  subst hu9
  have hP : va_P G.1 kcl [(sc, .inr (1, [.ref b, .ref fg])), (fg, .inl (G.2.1 1, 19, .inl (t9.2.2.2.2.2))), (b, .inr (6, [.ref t9.1, .int (0), .int (t9.2.2.2.2.1), .int (nI (t9.2.2.1))])), (t9.1, .inl (G.2.1 0, t9.2.1, .inl (t9.2.2.2.1))), (pf, .inr (2, [.ref tk])), (tk, .inl (G.2.1 4, 8, .inr (.inr (.inr (.inr (fun j => if j < 8 then some (r j) else none)))))), ((r 0), .inl (G.2.1 2, 6, .inr (.inl (g 0)))), ((r 1), .inl (G.2.1 2, 6, .inr (.inl (g 1)))), ((r 2), .inl (G.2.1 2, 6, .inr (.inl (g 2)))), ((r 3), .inl (G.2.1 2, 6, .inr (.inl (g 3)))), ((r 4), .inl (G.2.1 2, 6, .inr (.inl (g 4)))), ((r 5), .inl (G.2.1 2, 6, .inr (.inl (g 5)))), ((r 6), .inl (G.2.1 2, 6, .inr (.inl (g 6)))), ((r 7), .inl (G.2.1 2, 6, .inr (.inl (g 7)))), (x, .inr (0, [.ref cs, .ref sc, .ref pf, .int (u.2.1), .int (u.2.2.1), .int (u.2.2.2)])), (cs, .inl (G.2.1 2, 6, .inr (.inl (u.1))))] H := hP
  have hD : va_D A [(sc, .inr (1, [.ref b, .ref fg])), (fg, .inl (G.2.1 1, 19, .inl (t9.2.2.2.2.2))), (b, .inr (6, [.ref t9.1, .int (0), .int (t9.2.2.2.2.1), .int (nI (t9.2.2.1))])), (t9.1, .inl (G.2.1 0, t9.2.1, .inl (t9.2.2.2.1))), (pf, .inr (2, [.ref tk])), (tk, .inl (G.2.1 4, 8, .inr (.inr (.inr (.inr (fun j => if j < 8 then some (r j) else none)))))), ((r 0), .inl (G.2.1 2, 6, .inr (.inl (g 0)))), ((r 1), .inl (G.2.1 2, 6, .inr (.inl (g 1)))), ((r 2), .inl (G.2.1 2, 6, .inr (.inl (g 2)))), ((r 3), .inl (G.2.1 2, 6, .inr (.inl (g 3)))), ((r 4), .inl (G.2.1 2, 6, .inr (.inl (g 4)))), ((r 5), .inl (G.2.1 2, 6, .inr (.inl (g 5)))), ((r 6), .inl (G.2.1 2, 6, .inr (.inl (g 6)))), ((r 7), .inl (G.2.1 2, 6, .inr (.inl (g 7)))), (x, .inr (0, [.ref cs, .ref sc, .ref pf, .int (u.2.1), .int (u.2.2.1), .int (u.2.2.2)])), (cs, .inl (G.2.1 2, 6, .inr (.inl (u.1))))] := hD
  refine W.widen (k := 0) (n := 0) (Nat.le_refl _) (Nat.le_refl _) ?_
  refine lv_i2l (v := ((fn_X6_countOf ((3 : Int32)) u).1).toInt64) hx hb dc_X6_digest_17 rfl ?_
  refine ky_cS0 (As := [.long (j_8), .long (((fn_X6_countOf ((3 : Int32)) u).1).toInt64)]) F (mt_X6_mixed l (j_8) (((fn_X6_countOf ((3 : Int32)) u).1).toInt64)) ks_X6_199 ⟨⟨rfl, rfl⟩, by decide, by decide⟩ rfl hl.1 rfl (Nat.le_of_ble_eq_true rfl) ⟨by show (_ : Nat) ≤ 56; omega, by show (_ : Nat) ≤ 1904; omega⟩ dc_X6_digest_18 ?_
  generalize ((fn_X6_mixed (j_8) (((fn_X6_countOf ((3 : Int32)) u).1).toInt64)) : Int64) = j_11
  refine lv_lstore_n (lv' := [(1, .long (j_11)), (3, .int ((3 : Int32))), (0, .ref x)]) hx hb dc_X6_digest_21 rfl hl (by decide) rfl (fun ls hl => ?_)
  refine lv_iinc (v := (4 : Int32)) (lv' := [(3, .int ((4 : Int32))), (1, .long (j_11)), (0, .ref x)]) hx hb dc_X6_digest_22 hl (k := 1) rfl (by decide) (by decide) rfl (fun ls hl => ?_)
  refine lv_goto (tgt := 6) hx hb dc_X6_digest_25 (by decide) ?_
  refine lv_iload_n hx hb dc_X6_digest_6 rfl (lv_at hl 0 rfl) ?_
  refine lv_iconst (v := 3) hx hb dc_X6_digest_7 (by decide) ?_
  refine lv_icmp_gt (tgt := 28) hx hb dc_X6_digest_8 (by decide) (fun _ => ?_) (fun c_12 => absurd c_12 (by decide))
  refine lv_iconst (v := 0) hx hb dc_X6_digest_28 (by decide) ?_
  refine lv_istore_n (lv' := [(3, .int ((0 : Int32))), (1, .long (j_11)), (0, .ref x)]) hx hb dc_X6_digest_29 rfl hl (by decide) rfl (fun ls hl => ?_)
  refine W.widen (k := 9 * 0) (n := 306 * 0) (by first | exact Nat.le_refl _ | omega | exact Nat.zero_le _) (by first | exact Nat.le_refl _ | omega | exact Nat.zero_le _) ?_
  exact ml_X6_digest_L30 (x := x) (cs := cs) (sc := sc) (pf := pf) (u := u) (fg := fg) (b := b) (t9 := t9) (tk := tk) (r := r) (g := g) F hE hA hfr   (7) 0 (t9.1, t9.2.1, t9.2.2.1, t9.2.2.2.1, t9.2.2.2.2.1, t9.2.2.2.2.2) j_11 (by omega) (by omega) ⟨ht.1, ht.2.1, ht.2.2.1, ht.2.2.2⟩ _ _ (hP.sub (ws' := [(x, .inr (0, [.ref cs, .ref sc, .ref pf, .int (u.2.1), .int (u.2.2.1), .int (u.2.2.2)])), (cs, .inl (G.2.1 2, 6, .inr (.inl (u.1)))), (sc, .inr (1, [.ref b, .ref fg])), (fg, .inl (G.2.1 1, 19, .inl (t9.2.2.2.2.2))), (b, .inr (6, [.ref t9.1, .int (0), .int (t9.2.2.2.2.1), .int (nI (t9.2.2.1))])), (t9.1, .inl (G.2.1 0, t9.2.1, .inl (t9.2.2.2.1))), (pf, .inr (2, [.ref tk])), (tk, .inl (G.2.1 4, 8, .inr (.inr (.inr (.inr (fun j => if j < 8 then some (r j) else none)))))), ((r 0), .inl (G.2.1 2, 6, .inr (.inl (g 0)))), ((r 1), .inl (G.2.1 2, 6, .inr (.inl (g 1)))), ((r 2), .inl (G.2.1 2, 6, .inr (.inl (g 2)))), ((r 3), .inl (G.2.1 2, 6, .inr (.inl (g 3)))), ((r 4), .inl (G.2.1 2, 6, .inr (.inl (g 4)))), ((r 5), .inl (G.2.1 2, 6, .inr (.inl (g 5)))), ((r 6), .inl (G.2.1 2, 6, .inr (.inl (g 6)))), ((r 7), .inl (G.2.1 2, 6, .inr (.inl (g 7))))]) [14, 15, 0, 1, 2, 3, 4, 5, 6, 7, 8, 9, 10, 11, 12, 13] rfl) (hD.sub (ws' := [(x, .inr (0, [.ref cs, .ref sc, .ref pf, .int (u.2.1), .int (u.2.2.1), .int (u.2.2.2)])), (cs, .inl (G.2.1 2, 6, .inr (.inl (u.1)))), (sc, .inr (1, [.ref b, .ref fg])), (fg, .inl (G.2.1 1, 19, .inl (t9.2.2.2.2.2))), (b, .inr (6, [.ref t9.1, .int (0), .int (t9.2.2.2.2.1), .int (nI (t9.2.2.1))])), (t9.1, .inl (G.2.1 0, t9.2.1, .inl (t9.2.2.2.1))), (pf, .inr (2, [.ref tk])), (tk, .inl (G.2.1 4, 8, .inr (.inr (.inr (.inr (fun j => if j < 8 then some (r j) else none)))))), ((r 0), .inl (G.2.1 2, 6, .inr (.inl (g 0)))), ((r 1), .inl (G.2.1 2, 6, .inr (.inl (g 1)))), ((r 2), .inl (G.2.1 2, 6, .inr (.inl (g 2)))), ((r 3), .inl (G.2.1 2, 6, .inr (.inl (g 3)))), ((r 4), .inl (G.2.1 2, 6, .inr (.inl (g 4)))), ((r 5), .inl (G.2.1 2, 6, .inr (.inl (g 5)))), ((r 6), .inl (G.2.1 2, 6, .inr (.inl (g 6)))), ((r 7), .inl (G.2.1 2, 6, .inr (.inl (g 7))))]) [14, 15, 0, 1, 2, 3, 4, 5, 6, 7, 8, 9, 10, 11, 12, 13] (by decide) rfl) hS  _ (lv_sub hl [2, 1, 0] rfl)
end
section
/-! the reference's own preconditions hold: nearest comes to an end for what is not below 0 -/
theorem ky_nnJ {x : Int64} (h : 0 ≤ x.toInt) : ¬ x < 0 := fun z => by have := ky_negJ z; omega
theorem ok_nearest_L14 : ∀ (n : Nat) (v4 v6 : Int64), 1 ≤ v4.toInt → 2 ^ 52 ≤ v4.toInt * 2 ^ n → fk_X9_nearest_L14 (n + 1) v4 v6 := by
  intro n
  induction n with
  | zero =>
    intro v4 v6 h1 h2
    rw [fk_X9_nearest_L14]
    refine ⟨fun _ => ?_, fun h => ?_⟩
    · repeat' first | exact trivial | refine ⟨fun _ => ?_, fun _ => ?_⟩
    · exfalso
      apply h
      rw [lg_cmp_ge, Int64.le_iff_toInt_le, show (4503599627370496 : Int64).toInt = 4503599627370496 from rfl]
      omega
  | succ n ih =>
    intro v4 v6 h1 h2
    rw [fk_X9_nearest_L14]
    refine ⟨fun _ => ?_, fun h => ?_⟩
    · repeat' first | exact trivial | refine ⟨fun _ => ?_, fun _ => ?_⟩
    · have h3 : v4.toInt < 4503599627370496 := by
        have : ¬ (4503599627370496 : Int64) ≤ v4 := fun z => h ((lg_cmp_ge _ _).mpr z)
        rw [Int64.le_iff_toInt_le, show (4503599627370496 : Int64).toInt = 4503599627370496 from rfl] at this
        omega
      have h4 : ((v4) * ((2 : Int64))).toInt = v4.toInt * 2 := by
        rw [Int64.toInt_mul, show (2 : Int64).toInt = 2 from rfl]
        apply Int.bmod_eq_of_le <;> omega
      refine ih _ _ (by rw [h4]; omega) ?_
      rw [h4, Int.mul_assoc, show (2 : Int) * 2 ^ n = 2 ^ (n + 1) by rw [Int.pow_succ, Int.mul_comm]]
      exact h2
theorem ok_nearest {a b : Int64} (h : 0 ≤ a.toInt) : fk_X9_nearest a b := by
  refine ⟨⟨fun _ => trivial, fun hz => ?_⟩, trivial⟩
  have h1 : ¬ a.toInt = 0 := fun z => hz ((lg_cmp_eq _ _).mpr (Int64.toInt_inj.mp (by rw [z]; rfl)))
  exact ok_nearest_L14 63 a b (by omega) (by omega)
theorem ky_many_nn (v : Int32 × Int64) : 0 ≤ (fn_X8_many v).toInt ∧ (fn_X8_many v).toInt < 2 ^ 53 := by
  have h := ky_low_nn v.2
  unfold fn_X8_many fn_X8_low
  split
  · omega
  · rw [Int64.toInt_add, show (4503599627370496 : Int64).toInt = 4503599627370496 from rfl, Int.bmod_eq_of_le (by omega) (by omega)]
    omega
theorem ky_whole_nn (v : Int32 × Int64) : 0 ≤ (fn_X8_whole v).toInt ∧ (fn_X8_whole v).toInt < 2 ^ 53 := by
  have h := ky_many_nn v
  unfold fn_X8_whole
  split
  · obtain ⟨k, hk, e⟩ := pk_lOf (ky_nnJ h.1)
    rw [e] at h ⊢
    rw [pk_lT hk] at h
    unfold jlshr
    rw [pf_shr rfl (by omega), pk_lT (Nat.lt_of_le_of_lt (Nat.div_le_self _ _) hk)]
    have := Nat.div_le_self k (2 ^ (((-fn_X8_power v).toInt64 &&& 63).toBitVec.smod 64).toNat)
    generalize k / 2 ^ (((-fn_X8_power v).toInt64 &&& 63).toBitVec.smod 64).toNat = q at this ⊢
    omega
  · decide
theorem ky_whole1 (v : Int32 × Int64) : 0 ≤ ((fn_X8_whole v) + (((1 : Int32)).toInt64)).toInt ∧ 0 ≤ ((fn_X8_whole v) + (((0 : Int32)).toInt64)).toInt := by
  have h := ky_whole_nn v
  refine ⟨?_, ?_⟩
  · rw [Int64.toInt_add, show ((1 : Int32)).toInt64.toInt = 1 from by decide, Int.bmod_eq_of_le (by omega) (by omega)]
    omega
  · rw [Int64.toInt_add, show ((0 : Int32)).toInt64.toInt = 0 from by decide, Int.bmod_eq_of_le (by omega) (by omega)]
    omega
theorem ok_X8_step (v : Int32 × Int64) : fk_X8_step v := ⟨⟨fun _ => ⟨ok_nearest (by decide), trivial⟩, fun _ => trivial⟩, trivial⟩
theorem ok_X8_times (a : Int64) (v : Int32 × Int64) : fk_X8_times a v := ⟨⟨fun _ => trivial, fun _ => ⟨fun _ => ⟨ok_nearest (ky_many_nn v).1, trivial⟩, fun _ => trivial⟩⟩, trivial⟩
theorem ok_X8_sign (v : Int32 × Int64) : fk_X8_sign v := ⟨⟨fun _ => trivial, fun _ => ⟨ok_nearest (by decide), trivial⟩⟩, trivial⟩
theorem ok_X8_taken (a : Int32) (v : Int32 × Int64) : fk_X8_taken a v := by
  have h1 := ok_nearest (b := 0) (ky_whole1 v).1
  have h2 := ok_nearest (b := 0) (ky_whole1 v).2
  exact ⟨⟨fun _ => ⟨fun _ => ⟨fun _ => ⟨fun _ => ⟨h1, trivial⟩, fun _ => ⟨fun _ => ⟨fun _ => ⟨h1, trivial⟩, fun _ => ⟨h2, trivial⟩⟩, fun _ => ⟨h2, trivial⟩⟩⟩, fun _ => ⟨fun _ => ⟨h2, trivial⟩, fun _ => ⟨fun _ => ⟨fun _ => ⟨h1, trivial⟩, fun _ => ⟨h2, trivial⟩⟩, fun _ => ⟨fun _ => ⟨h2, trivial⟩, fun _ => ⟨h1, trivial⟩⟩⟩⟩⟩, fun _ => trivial⟩, fun _ => trivial⟩, trivial⟩
theorem ok_X9_take (a1 a2 a3 : Int32) (w : ky_MV) : fk_X9_take a1 a2 a3 w := ⟨⟨fun _ => ⟨ok_X8_taken _ _, trivial⟩, fun _ => trivial⟩, trivial⟩
theorem ok_X9_floor (a1 a2 : Int32) (w : ky_MV) : fk_X9_floor a1 a2 w := ⟨⟨ok_X9_take _ _ _ _, trivial⟩, trivial⟩
theorem ok_X9_ceil (a1 a2 : Int32) (w : ky_MV) : fk_X9_ceil a1 a2 w := ⟨⟨ok_X9_take _ _ _ _, trivial⟩, trivial⟩
theorem ok_X9_rint (a1 a2 : Int32) (w : ky_MV) : fk_X9_rint a1 a2 w := ⟨⟨ok_X9_take _ _ _ _, trivial⟩, trivial⟩
theorem ok_X9_sign (a1 a2 : Int32) (w : ky_MV) : fk_X9_sign a1 a2 w := ⟨⟨fun _ => ⟨ok_X8_sign _, trivial⟩, fun _ => trivial⟩, trivial⟩
theorem ok_X9_step (a1 a2 : Int32) (w : ky_MV) : fk_X9_step a1 a2 w := ⟨⟨fun _ => ⟨ok_X8_step _, trivial⟩, fun _ => trivial⟩, trivial⟩
theorem ok_X9_unit (a1 a2 : Int32) (w : ky_MV) : fk_X9_unit a1 a2 w := ⟨⟨fun _ => ⟨ok_X8_times _ _, trivial⟩, fun _ => trivial⟩, trivial⟩
theorem ok_X9_times (a1 a2 a3 : Int32) (w : ky_MV) : fk_X9_times a1 a2 a3 w := ⟨⟨fun _ => ⟨ok_X8_times _ _, trivial⟩, fun _ => trivial⟩, trivial⟩
theorem ok_X9_isBack (a1 a2 : Int32) (w : ky_MV) : fk_X9_isBack a1 a2 w := ⟨⟨fun _ => ⟨fun _ => ⟨fun _ => ⟨ok_X8_times _ _, ⟨ok_X8_times _ _, ⟨fun _ => trivial, fun _ => trivial⟩⟩⟩, fun _ => trivial⟩, fun _ => ⟨fun _ => ⟨ok_X8_times _ _, ⟨ok_X8_times _ _, ⟨fun _ => trivial, fun _ => trivial⟩⟩⟩, fun _ => trivial⟩⟩, fun _ => trivial⟩, trivial⟩
theorem ok_X9_power (a1 a2 a3 : Int32) (w : ky_MV) : fk_X9_power a1 a2 a3 w := by
  have h : ∀ b, fk_X9_nearest 1 b := fun b => ok_nearest (by decide)
  exact ⟨⟨fun _ => ⟨fun _ => ⟨fun _ => ⟨h _, trivial⟩, fun _ => trivial⟩, fun _ => ⟨fun _ => ⟨h _, trivial⟩, fun _ => trivial⟩⟩, fun _ => trivial⟩, trivial⟩
theorem ky_toJ (a : Int32) : (a.toInt64).toInt = a.toInt := Int32.toInt_toInt64 a
theorem ok_X9_quarters (a1 a2 : Int32) (w : ky_MV) : fk_X9_quarters a1 a2 w := by
  have h1 : 0 ≤ a2 → fk_X9_nearest ((a2).toInt64) ((-2 : Int64)) := fun z => ok_nearest (by
    rw [ky_toJ]
    simpa using Int32.le_iff_toInt_le.mp z)
  have h2 : ¬ 0 ≤ a2 → fk_X9_nearest (-((a2).toInt64)) ((-2 : Int64)) := fun z => ok_nearest (by
    have h3 := Int32.lt_iff_toInt_lt.mp (Int32.not_le.mp z)
    have h4 := Int32.le_toInt a2
    rw [show (0 : Int32).toInt = 0 from rfl] at h3
    rw [Int64.toInt_neg, ky_toJ, Int.bmod_eq_of_le (by omega) (by omega)]
    omega)
  unfold fk_X9_quarters
  refine ⟨⟨fun _ => ⟨fun c => ⟨fun _ => ⟨h1 c, trivial⟩, fun z => absurd c z⟩, fun c => ⟨fun z => absurd z c, fun _ => ⟨h2 c, trivial⟩⟩⟩, fun _ => trivial⟩, trivial⟩
theorem ok_X9_sampled (a : Int32) : fk_X9_sampled a := ⟨⟨fun _ => trivial, fun _ => ⟨fun _ => trivial, fun _ => ⟨fun _ => trivial, fun _ => ⟨fun _ => trivial, fun _ => ⟨fun _ => ⟨ok_nearest (by decide), trivial⟩, fun _ => ⟨fun _ => ⟨ok_nearest (by decide), trivial⟩, fun _ => ⟨fun _ => ⟨ok_nearest (by decide), trivial⟩, fun _ => ⟨fun _ => ⟨ok_nearest (by decide), trivial⟩, fun _ => ⟨fun _ => ⟨ok_nearest (by decide), trivial⟩, fun _ => ⟨fun _ => ⟨ok_nearest (by decide), trivial⟩, fun _ => ⟨fun _ => ⟨ok_nearest (by decide), trivial⟩, fun _ => ⟨ok_nearest (by decide), trivial⟩⟩⟩⟩⟩⟩⟩⟩⟩⟩⟩⟩, trivial⟩
theorem ok_X9_sample (a1 a2 a3 : Int32) (w : ky_MV) : fk_X9_sample a1 a2 a3 w := ⟨⟨fun _ => ⟨fun _ => ⟨fun _ => ⟨ok_X9_sampled a2, trivial⟩, fun _ => trivial⟩, fun _ => ⟨fun _ => ⟨ok_X9_sampled a2, trivial⟩, fun _ => trivial⟩⟩, fun _ => trivial⟩, trivial⟩
theorem ok_X9_place (a1 : Int32) (w : ky_MV) : fk_X9_place a1 w := ⟨⟨fun _ => ⟨ok_placeNow _ _, trivial⟩, fun _ => trivial⟩, trivial⟩
theorem ky_isOf4 {a : Int32} (h : ¬ fn_X9_isOf a 0 3 = 0) : vp_in a 4 := by
  have h3 : ¬ a < 0 := by
    intro z
    apply h
    unfold fn_X9_isOf
    rw [if_pos z]
  have h4 : ¬ (3 : Int32) < a := by
    intro z
    apply h
    unfold fn_X9_isOf
    rw [if_neg h3, if_pos z]
  rw [Int32.lt_iff_toInt_lt] at h3 h4
  refine vp_in_iff.mpr ⟨?_, ?_⟩
  · have : (0 : Int32).toInt = 0 := rfl
    omega
  · have : (3 : Int32).toInt = 3 := rfl
    omega
theorem ok_X9_house (a1 : Int32) (w : ky_MV) : fk_X9_house a1 w := ⟨⟨fun _ => ⟨fun z => absurd z (by decide), fun _ => trivial⟩, fun c => ⟨fun _ => ⟨ky_isOf4 c, ok_houseNow _ _, trivial⟩, fun _ => trivial⟩⟩, trivial⟩
end
section
/-! texts of numbers -/
abbrev ky_WZ (G : ky_G) (u : Nat × Nat × Nat × (Nat → Int32)) : va_W := [(u.1, .inr (7, [.ref u.2.1, .int 0, .int 0, .int 0])), (u.2.1, .inl (G.2.1 0, u.2.2.1, .inl u.2.2.2))]
theorem ky_high0 {x : Int64} (h : (jlshr x ((52 : Int32))).toInt32 = 0) : 0 ≤ x.toInt ∧ x.toInt < 2 ^ 52 := by
  have h1 := Int64.le_toInt x
  have h2 := Int64.toInt_lt x
  have e : (jlshr x ((52 : Int32))).toInt = x.toInt >>> 52 := by
    show (x.toBitVec.sshiftRight ((((52 : Int32).toInt64 &&& 63).toBitVec).smod 64).toNat).toInt = _
    rw [BitVec.toInt_sshiftRight]
    rfl
  have h3 : (jlshr x ((52 : Int32))).toInt32.toInt = 0 := by rw [h]; rfl
  rw [Int64.toInt_toInt32, e, Int.shiftRight_eq_div_pow] at h3
  have h4 : x.toInt / (2 ^ 52 : Nat) = 0 := by
    have h5 : (-2048 : Int) ≤ x.toInt / (2 ^ 52 : Nat) ∧ x.toInt / (2 ^ 52 : Nat) < 2048 := by omega
    rw [Int.bmod_eq_of_le (by omega) (by omega)] at h3
    exact h3
  omega
theorem ky_many_pos {v : Int32 × Int64} (h : ¬ lg_cmp v.2 0 = 0) : ∃ k : Nat, 1 ≤ k ∧ k < 2 ^ 53 ∧ fn_X8_many v = lN k := by
  have hb := ky_many_nn v
  obtain ⟨k, hk, e⟩ := pk_lOf (ky_nnJ hb.1)
  refine ⟨k, ?_, ?_, e⟩
  · have hne : ¬ k = 0 := by
      intro z
      subst z
      have e0 : (fn_X8_many v).toInt = 0 := by rw [e]; rfl
      have hl := ky_low_nn v.2
      unfold fn_X8_many fn_X8_low at e0
      split at e0
      · rename_i hh
        unfold fn_X8_high at hh
        have hr := ky_high0 hh
        obtain ⟨j, hj, ej⟩ := pk_lOf (ky_nnJ hr.1)
        rw [ej, pk_lT hj] at hr
        have em : (lN j &&& 4503599627370495) = lN j := by
          have := wb_mask (n := j) (by omega) (k := 52) (by decide)
          rw [Nat.mod_eq_of_lt (by omega)] at this
          exact this
        rw [ej, em, pk_lT hj] at e0
        have : j = 0 := by omega
        subst this
        apply h
        rw [ej]
        decide
      · rw [Int64.toInt_add, show (4503599627370496 : Int64).toInt = 4503599627370496 from rfl, Int.bmod_eq_of_le (by omega) (by omega)] at e0
        omega
    omega
  · rw [e, pk_lT hk] at hb
    omega
theorem ky_half {v : Nat} (hv : v < 2 ^ 63) : lN v / ((2 : Int64)) = lN (v / 2) := pk_lDiv (b := 2) hv (by decide) (by decide)
theorem ky_even {v : Nat} (hv : v < 2 ^ 63) (h : lg_cmp ((lN v) - (lN v) / ((2 : Int64)) * ((2 : Int64))) 0 = 0) : v % 2 = 0 := by
  have h2 := (lg_cmp_eq _ _).mp h
  have h3 : lN v - lN v / lN 2 * lN 2 = lN (v % 2) := pk_lRem hv (by decide) (by decide)
  have h4 : lN (v % 2) = lN 0 := h3.symm.trans h2
  exact (pk_lEQ (by omega) (by decide)).mp h4
theorem ky_lNsz {v : Nat} (hv : v < 2 ^ 63) : ky_szJ (lN v) ≤ 19 := ky_szJ_nn (by rw [pk_lT hv]; exact Int.natCast_nonneg _)
theorem ky_gp (a m q : Nat) : a + ky_gc m q ≤ a + 1 := by have := (ky_gmost m q).1; omega
theorem ky_gp2 (a m q : Nat) : a + ky_gs m q ≤ a + 34 := by have := (ky_gmost m q).2; omega
end
