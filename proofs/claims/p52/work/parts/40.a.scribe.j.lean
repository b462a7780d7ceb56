section
set_option linter.constructorNameAsVariable false in
set_option maxHeartbeats 4000000 in
set_option maxRecDepth 100000 in
theorem ml_X3_appendWhole_L75 {p : Program} {l : Launch} {e : Env} {s : State} {m : MethodId} {args : Array Value} {below : List Frame} {meth : Method} {c : Code} {G : ky_G} {A : Nat → Prop} {sc : Nat} {fg : Nat} {fc : Nat → Int32} {b : Nat} {va : Nat} {mm : Nat} {n : Nat} {f : Nat → Int32} {ml : Int32} {a1 : Int64} (F : ky_F p s m meth c my_X3_appendWhole.cls prog_5_method_9_code 7 none args) (hE : ky_E G s) (hA : ∀ q, s.heap.size ≤ q → A q) (hfr : ∀ q, A q → ky_fr G q)  (hm : ky_m2 mm) (hn : n ≤ mm) (hq : n + ky_szJ a1 ≤ 34) : ∀ (n9 : Nat) (at9 : Nat) (cnt : Nat) (va2 : Nat) (f2 : Nat → Int32) (fcx : Nat → Int32) (h19 : at9 ≤ 19) (hn9 : 19 - at9 < n9) (hq2 : cnt + (19 - at9) = n + ky_szJ a1) (hf2 : ky_fit f2) (hchx : ky_chs fcx) (H : Heap) (locs : List Loc), va_P G.1 kcl [(sc, .inr (1, [.ref b, .ref fg])), (fg, .inl (G.2.1 1, 19, .inl (fcx))), (b, .inr (6, [.ref va2, .int (0), .int (ml), .int (nI (cnt))])), (va2, .inl (G.2.1 0, ky_cap mm (cnt), .inl (f2)))] H → va_D A [(sc, .inr (1, [.ref b, .ref fg])), (fg, .inl (G.2.1 1, 19, .inl (fcx))), (b, .inr (6, [.ref va2, .int (0), .int (ml), .int (nI (cnt))])), (va2, .inl (G.2.1 0, ky_cap mm (cnt), .inl (f2)))] → va_S A s.heap H locs →  ∀ ls : Array Slot, lv_has ls 7 [(0, .ref sc), (6, .int (nI (at9)))] → W p l e { frames := 6, cells := ky_gc mm (n + ky_szJ a1), slots := ky_gs mm (n + ky_szJ a1), locals := 126 } s m args below meth c H locs (ky_gc mm (cnt)) (ky_gs mm (cnt)) (MQ below (ky_Q (S := Nat × (Nat → Int32) × (Nat → Int32)) G A (fun v u => v = none ∧ ky_fit u.2.1 ∧ ky_chs u.2.2) (fun u => ky_WC G sc fg u.2.2 b u.1 (ky_cap mm (n + ky_szJ a1)) (n + ky_szJ a1) u.2.1 ml) (fun _ _ => True)) args s (ky_gc mm (n + ky_szJ a1)) (ky_gs mm (n + ky_szJ a1)) A) (F0 m 75 ls []) := by
  obtain ⟨hx, hb, hml, hown, hr, hlocks, hts⟩ := id F
  intro n9
  induction n9 with
  | zero => intro at9 cnt va2 f2 fcx h19 hn9 hq2 hf2 hchx; exact False.elim (by omega)
  | succ n9 ih =>
      intro at9 cnt va2 f2 fcx h19 hn9 hq2 hf2 hchx H locs hP hD hS  ls hl
      refine lv_iload hx hb dc_X3_appendWhole_75 (lv_at hl 1 rfl) ?_
      refine lv_bipush (v := 19) hx hb dc_X3_appendWhole_77 (by decide) ?_
      refine lv_icmp_ge (tgt := 103) hx hb dc_X3_appendWhole_79 (by decide) (fun c_0 => ?_) (fun c_0 => ?_)
      · skip
        have h9 : 19 ≤ at9 := (nI_leI (a := 19) (b := at9) (by omega) (by omega)).mp c_0
        have eq9 : cnt = n + ky_szJ a1 := by omega
        subst eq9
        have hP9 := hP.sub (ws' := [(sc, .inr (1, [.ref b, .ref fg])), (fg, .inl (G.2.1 1, 19, .inl (fcx))), (b, .inr (6, [.ref va2, .int (0), .int (ml), .int (nI (n + ky_szJ a1))])), (va2, .inl (G.2.1 0, ky_cap mm (n + ky_szJ a1), .inl (f2)))]) [0, 1, 2, 3] rfl
        have hD9 := hD.sub (ws' := [(sc, .inr (1, [.ref b, .ref fg])), (fg, .inl (G.2.1 1, 19, .inl (fcx))), (b, .inr (6, [.ref va2, .int (0), .int (ml), .int (nI (n + ky_szJ a1))])), (va2, .inl (G.2.1 0, ky_cap mm (n + ky_szJ a1), .inl (f2)))]) [0, 1, 2, 3] (by decide) rfl
        refine W.widen (k := ky_gc mm (n + ky_szJ a1)) (n := ky_gs mm (n + ky_szJ a1)) (by omega) (by omega) ?_
        exact W.vret hx hb hr (fun t ht hW => ⟨⟨_, (va2, f2, fcx), rfl, ⟨rfl, hf2, hchx⟩, by rw [ht]; exact hP9, hD9, trivial⟩, hS.F ht⟩) hS.2.2 dc_X3_appendWhole_103
      · skip
        have h9 : ¬ 19 ≤ at9 := fun z => c_0 ((nI_leI (a := 19) (b := at9) (by omega) (by omega)).mpr z)
        refine lv_aload_n hx hb dc_X3_appendWhole_82 rfl (lv_at hl 0 rfl) ?_
        refine va_get (D := G.1) (ci := 1) (v := .ref b) (C := RX3) (T := TX3) (N := 2) hx hb hts ki_X3 hown hE.1 hP 0 rfl rfl 0 (by decide) (hts _ kw_1_78) (fun _ h9 => h9) rfl dc_X3_appendWhole_83 ?_
        refine lv_aload_n hx hb dc_X3_appendWhole_86 rfl (lv_at hl 0 rfl) ?_
        refine va_get (D := G.1) (ci := 1) (v := .ref fg) (C := RX3) (T := TX3) (N := 2) hx hb hts ki_X3 hown hE.1 hP 0 rfl rfl 1 (by decide) (hts _ kw_1_79) (fun _ h9 => h9) rfl dc_X3_appendWhole_87 ?_
        refine lv_iload hx hb dc_X3_appendWhole_90 (lv_at hl 1 rfl) ?_
        refine va_cald hx hb hE.1 hP 1 1 rfl rfl (vp_in_nI (by omega) (by omega)) dc_X3_appendWhole_92 ?_
        refine ky_cVh (As := [.int ((fcx) (nI (at9)).toNatClampNeg)]) (wr := [(sc, .inr (1, [.ref b, .ref fg])), (fg, .inl (G.2.1 1, 19, .inl (fcx)))]) F (hE.at hfr hS) hfr (mt_J4_append_cf468 l G b va2 (ky_cap mm (cnt)) cnt f2 ml ((fcx) (nI (at9)).toNatClampNeg) H.size hm.cap hf2 (hchx _) (by omega)) kv_X3_48 ⟨⟨rfl, rfl⟩, Nat.le_of_ble_eq_true rfl, Nat.le_of_ble_eq_true rfl⟩ rfl hl.1 rfl (Nat.le_of_ble_eq_true rfl) (ky_rc hm (by omega) (by omega) (by omega)) (va_recv hE.1 hP (ci := 6) (q0 := 2) rfl rfl) trivial hP hD hS hA [2, 3] [0, 1] rfl rfl (by decide) (by decide) (by decide) dc_X3_appendWhole_93 ?_
        rintro v9 ⟨va_1, f_1⟩ H locs ⟨rfl, hf_1⟩ hP hD hS - hz hk9
        rw [show ky_cap (ky_cap mm (cnt)) (cnt + 1) = ky_cap mm (cnt + 1) from ky_capc hm (by omega) (by omega)] at hP hD
        have hP : va_P G.1 kcl [(sc, .inr (1, [.ref b, .ref fg])), (fg, .inl (G.2.1 1, 19, .inl (fcx))), (b, .inr (6, [.ref va_1, .int (0), .int (ml), .int (nI (cnt + 1))])), (va_1, .inl (G.2.1 0, ky_cap mm (cnt + 1), .inl (f_1)))] H := hP
        have hD : va_D A [(sc, .inr (1, [.ref b, .ref fg])), (fg, .inl (G.2.1 1, 19, .inl (fcx))), (b, .inr (6, [.ref va_1, .int (0), .int (ml), .int (nI (cnt + 1))])), (va_1, .inl (G.2.1 0, ky_cap mm (cnt + 1), .inl (f_1)))] := hD
        refine W.widen (k := ky_gc mm (cnt + 1)) (n := ky_gs mm (cnt + 1)) (by rw [ky_gcc hm (by omega) (by omega)]; exact Nat.le_refl _) (by rw [ky_gsc hm (by omega) (by omega)]; exact Nat.le_refl _) ?_
        refine lv_pop hx hb dc_X3_appendWhole_96 rfl ?_
        refine lv_iinc (v := nI (at9 + 1)) (lv' := [(6, .int (nI (at9 + 1))), (0, .ref sc)]) hx hb dc_X3_appendWhole_97 hl (k := 1) rfl (nI_1 _) (by decide) rfl (fun ls hl => ?_)
        refine lv_goto (tgt := 75) hx hb dc_X3_appendWhole_100 (by decide) ?_
        refine W.widen (k := ky_gc mm (cnt + 1)) (n := ky_gs mm (cnt + 1)) (by first | exact Nat.le_refl _ | omega | exact Nat.zero_le _) (by first | exact Nat.le_refl _ | omega | exact Nat.zero_le _) ?_
        exact ih (at9 + 1) (cnt + 1) va_1 f_1 fcx (by omega) (by omega) (by omega) hf_1 hchx _ _ (hP.sub (ws' := [(sc, .inr (1, [.ref b, .ref fg])), (fg, .inl (G.2.1 1, 19, .inl (fcx))), (b, .inr (6, [.ref va_1, .int (0), .int (ml), .int (nI (cnt + 1))])), (va_1, .inl (G.2.1 0, ky_cap mm (cnt + 1), .inl (f_1)))]) [0, 1, 2, 3] rfl) (hD.sub (ws' := [(sc, .inr (1, [.ref b, .ref fg])), (fg, .inl (G.2.1 1, 19, .inl (fcx))), (b, .inr (6, [.ref va_1, .int (0), .int (ml), .int (nI (cnt + 1))])), (va_1, .inl (G.2.1 0, ky_cap mm (cnt + 1), .inl (f_1)))]) [0, 1, 2, 3] (by decide) rfl) hS  _ (lv_sub hl [1, 0] rfl)
set_option linter.constructorNameAsVariable false in
set_option maxHeartbeats 4000000 in
set_option maxRecDepth 100000 in
theorem ml_X3_appendWhole_L33 {p : Program} {l : Launch} {e : Env} {s : State} {m : MethodId} {args : Array Value} {below : List Frame} {meth : Method} {c : Code} {G : ky_G} {A : Nat → Prop} {sc : Nat} {fg : Nat} {fc : Nat → Int32} {b : Nat} {va : Nat} {mm : Nat} {n : Nat} {f : Nat → Int32} {ml : Int32} {a1 : Int64} (F : ky_F p s m meth c my_X3_appendWhole.cls prog_5_method_9_code 7 none args) (hE : ky_E G s) (hA : ∀ q, s.heap.size ≤ q → A q) (hfr : ∀ q, A q → ky_fr G q)  (hm : ky_m2 mm) (hn : n ≤ mm) (hq : n + ky_szJ a1 ≤ 34) : ∀ (n9 : Nat) (x : Int64) (v : Nat) (fs : Nat) (fcx : Nat → Int32) (n1 : Nat) (va1 : Nat) (f1 : Nat → Int32) (e0 : Nat) (hv : x.toInt = -(v : Int)) (hn9 : ky_d v ≤ n9) (hfs : fs = e0 + ky_d v) (hfs9 : fs ≤ 19) (hq1 : n1 + (19 - e0) = n + ky_szJ a1) (hf1 : ky_fit f1) (hchx : ky_chs fcx) (H : Heap) (locs : List Loc), va_P G.1 kcl [(sc, .inr (1, [.ref b, .ref fg])), (fg, .inl (G.2.1 1, 19, .inl (fcx))), (b, .inr (6, [.ref va1, .int (0), .int (ml), .int (nI (n1))])), (va1, .inl (G.2.1 0, ky_cap mm (n1), .inl (f1)))] H → va_D A [(sc, .inr (1, [.ref b, .ref fg])), (fg, .inl (G.2.1 1, 19, .inl (fcx))), (b, .inr (6, [.ref va1, .int (0), .int (ml), .int (nI (n1))])), (va1, .inl (G.2.1 0, ky_cap mm (n1), .inl (f1)))] → va_S A s.heap H locs →  ∀ ls : Array Slot, lv_has ls 7 [(0, .ref sc), (3, .long (x)), (5, .int (nI (fs)))] → W p l e { frames := 6, cells := ky_gc mm (n + ky_szJ a1), slots := ky_gs mm (n + ky_szJ a1), locals := 126 } s m args below meth c H locs (ky_gc mm (n1)) (ky_gs mm (n1)) (MQ below (ky_Q (S := Nat × (Nat → Int32) × (Nat → Int32)) G A (fun v u => v = none ∧ ky_fit u.2.1 ∧ ky_chs u.2.2) (fun u => ky_WC G sc fg u.2.2 b u.1 (ky_cap mm (n + ky_szJ a1)) (n + ky_szJ a1) u.2.1 ml) (fun _ _ => True)) args s (ky_gc mm (n + ky_szJ a1)) (ky_gs mm (n + ky_szJ a1)) A) (F0 m 33 ls []) := by
  obtain ⟨hx, hb, hml, hown, hr, hlocks, hts⟩ := id F
  intro n9
  induction n9 with
  | zero => intro x v fs fcx n1 va1 f1 e0 hv hn9 hfs hfs9 hq1 hf1 hchx; exact False.elim (by have := ky_d1 v; omega)
  | succ n9 ih =>
      intro x v fs fcx n1 va1 f1 e0 hv hn9 hfs hfs9 hq1 hf1 hchx H locs hP hD hS  ls hl
      have hd7 := ky_d1 v
      refine lv_iinc (v := nI (fs - 1)) (lv' := [(5, .int (nI (fs - 1))), (0, .ref sc), (3, .long (x))]) hx hb dc_X3_appendWhole_33 hl (k := 2) rfl (ky_pm1 (by omega)) (by decide) rfl (fun ls hl => ?_)
      refine lv_aload_n hx hb dc_X3_appendWhole_36 rfl (lv_at hl 1 rfl) ?_
      refine va_get (D := G.1) (ci := 1) (v := .ref fg) (C := RX3) (T := TX3) (N := 2) hx hb hts ki_X3 hown hE.1 hP 0 rfl rfl 1 (by decide) (hts _ kw_1_79) (fun _ h9 => h9) rfl dc_X3_appendWhole_37 ?_
      refine lv_iload hx hb dc_X3_appendWhole_40 (lv_at hl 0 rfl) ?_
      refine lv_ldc2 (v := 48) hx hb hown (hts _ kw_3_61) dc_X3_appendWhole_42 ?_
      refine lv_lload_n hx hb dc_X3_appendWhole_45 rfl (lv_at hl 2 rfl) ?_
      refine lv_ldc2 (v := 10) hx hb hown (hts _ kw_3_62) dc_X3_appendWhole_46 ?_
      refine lv_lrem hx hb dc_X3_appendWhole_49 (by decide) ?_
      refine lv_lsub hx hb dc_X3_appendWhole_50 ?_
      refine lv_l2i (v := (((48 : Int64)) - ((x) - (x) / ((10 : Int64)) * ((10 : Int64)))).toInt32) hx hb dc_X3_appendWhole_51 rfl ?_
      refine lv_i2c (v := (((((48 : Int64)) - ((x) - (x) / ((10 : Int64)) * ((10 : Int64)))).toInt32).toUInt32 % 65536).toInt32) hx hb dc_X3_appendWhole_52 rfl ?_
      refine va_cast hx hb hE.1 hP hD hS 1 1 rfl rfl (vp_in_nI (by omega) (by omega)) dc_X3_appendWhole_53 (fun H locs hP hD hS => ?_)
      have hP : va_P G.1 kcl [(sc, .inr (1, [.ref b, .ref fg])), (fg, .inl (G.2.1 1, 19, .inl (upd (fcx) (nI (fs - 1)).toNatClampNeg (vp_nar .char ((((((48 : Int64)) - ((x) - (x) / ((10 : Int64)) * ((10 : Int64)))).toInt32).toUInt32 % 65536).toInt32))))), (b, .inr (6, [.ref va1, .int (0), .int (ml), .int (nI (n1))])), (va1, .inl (G.2.1 0, ky_cap mm (n1), .inl (f1)))] H := hP
      have hD : va_D A [(sc, .inr (1, [.ref b, .ref fg])), (fg, .inl (G.2.1 1, 19, .inl (upd (fcx) (nI (fs - 1)).toNatClampNeg (vp_nar .char ((((((48 : Int64)) - ((x) - (x) / ((10 : Int64)) * ((10 : Int64)))).toInt32).toUInt32 % 65536).toInt32))))), (b, .inr (6, [.ref va1, .int (0), .int (ml), .int (nI (n1))])), (va1, .inl (G.2.1 0, ky_cap mm (n1), .inl (f1)))] := hD
      refine lv_lload_n hx hb dc_X3_appendWhole_54 rfl (lv_at hl 2 rfl) ?_
      refine lv_ldc2 (v := 10) hx hb hown (hts _ kw_3_62) dc_X3_appendWhole_55 ?_
      refine lv_ldiv hx hb dc_X3_appendWhole_58 (by decide) ?_
      refine lv_lstore_n (lv' := [(3, .long ((x) / ((10 : Int64)))), (5, .int (nI (fs - 1))), (0, .ref sc)]) hx hb dc_X3_appendWhole_59 rfl hl (by decide) rfl (fun ls hl => ?_)
      refine lv_lload_n hx hb dc_X3_appendWhole_60 rfl (lv_at hl 0 rfl) ?_
      refine lv_lconst (v := 0) hx hb dc_X3_appendWhole_61 (by decide) ?_
      refine W.lcmp hx hb dc_X3_appendWhole_62 ?_
      refine lv_if_eq (tgt := 71) hx hb dc_X3_appendWhole_63 (by decide) (fun c_0 => ?_) (fun c_0 => ?_)
      · skip
        have h10 := ky_z10 hv c_0
        have hdd := ky_d10 h10
        refine lv_iload hx hb dc_X3_appendWhole_71 (lv_at hl 1 rfl) ?_
        refine lv_istore (lv' := [(6, .int (nI (fs - 1))), (3, .long ((x) / ((10 : Int64)))), (5, .int (nI (fs - 1))), (0, .ref sc)]) hx hb dc_X3_appendWhole_73 hl (by decide) rfl (fun ls hl => ?_)
        refine W.widen (k := ky_gc mm (n1)) (n := ky_gs mm (n1)) (by first | exact Nat.le_refl _ | omega | exact Nat.zero_le _) (by first | exact Nat.le_refl _ | omega | exact Nat.zero_le _) ?_
        exact ml_X3_appendWhole_L75 (sc := sc) (fg := fg) (fc := fc) (b := b) (va := va) (mm := mm) (n := n) (f := f) (ml := ml) (a1 := a1) F hE hA hfr  hm hn hq (20) (fs - 1) n1 va1 f1 (upd (fcx) (nI (fs - 1)).toNatClampNeg (vp_nar .char ((((((48 : Int64)) - ((x) - (x) / ((10 : Int64)) * ((10 : Int64)))).toInt32).toUInt32 % 65536).toInt32))) (by omega) (by omega) (by omega) hf1 (ky_chsU hchx _ (ky_dch hv)) _ _ (hP.sub (ws' := [(sc, .inr (1, [.ref b, .ref fg])), (fg, .inl (G.2.1 1, 19, .inl (upd (fcx) (nI (fs - 1)).toNatClampNeg (vp_nar .char ((((((48 : Int64)) - ((x) - (x) / ((10 : Int64)) * ((10 : Int64)))).toInt32).toUInt32 % 65536).toInt32))))), (b, .inr (6, [.ref va1, .int (0), .int (ml), .int (nI (n1))])), (va1, .inl (G.2.1 0, ky_cap mm (n1), .inl (f1)))]) [0, 1, 2, 3] rfl) (hD.sub (ws' := [(sc, .inr (1, [.ref b, .ref fg])), (fg, .inl (G.2.1 1, 19, .inl (upd (fcx) (nI (fs - 1)).toNatClampNeg (vp_nar .char ((((((48 : Int64)) - ((x) - (x) / ((10 : Int64)) * ((10 : Int64)))).toInt32).toUInt32 % 65536).toInt32))))), (b, .inr (6, [.ref va1, .int (0), .int (ml), .int (nI (n1))])), (va1, .inl (G.2.1 0, ky_cap mm (n1), .inl (f1)))]) [0, 1, 2, 3] (by decide) rfl) hS  _ (lv_sub hl [3, 0] rfl)
      · skip
        have h10 := ky_nz10 hv c_0
        have hdd := ky_dd10 h10 (ky_vJ hv)
        have hd8 := ky_d1 (v / 10)
        have hp9 : (0 : Int32) < nI (fs - 1) := nI_lt (a := 0) (by omega) (by omega)
        refine lv_iload hx hb dc_X3_appendWhole_66 (lv_at hl 1 rfl) ?_
        refine lv_if_gt (tgt := 33) hx hb dc_X3_appendWhole_68 (by decide) (fun _ => ?_) (fun c_1 => absurd (hp9) c_1)
        refine W.widen (k := ky_gc mm (n1)) (n := ky_gs mm (n1)) (by first | exact Nat.le_refl _ | omega | exact Nat.zero_le _) (by first | exact Nat.le_refl _ | omega | exact Nat.zero_le _) ?_
        exact ih ((x) / ((10 : Int64))) (v / 10) (fs - 1) (upd (fcx) (nI (fs - 1)).toNatClampNeg (vp_nar .char ((((((48 : Int64)) - ((x) - (x) / ((10 : Int64)) * ((10 : Int64)))).toInt32).toUInt32 % 65536).toInt32))) n1 va1 f1 e0 (ky_div10J hv) (by omega) (by omega) (by omega) hq1 hf1 (ky_chsU hchx _ (ky_dch hv)) _ _ (hP.sub (ws' := [(sc, .inr (1, [.ref b, .ref fg])), (fg, .inl (G.2.1 1, 19, .inl (upd (fcx) (nI (fs - 1)).toNatClampNeg (vp_nar .char ((((((48 : Int64)) - ((x) - (x) / ((10 : Int64)) * ((10 : Int64)))).toInt32).toUInt32 % 65536).toInt32))))), (b, .inr (6, [.ref va1, .int (0), .int (ml), .int (nI (n1))])), (va1, .inl (G.2.1 0, ky_cap mm (n1), .inl (f1)))]) [0, 1, 2, 3] rfl) (hD.sub (ws' := [(sc, .inr (1, [.ref b, .ref fg])), (fg, .inl (G.2.1 1, 19, .inl (upd (fcx) (nI (fs - 1)).toNatClampNeg (vp_nar .char ((((((48 : Int64)) - ((x) - (x) / ((10 : Int64)) * ((10 : Int64)))).toInt32).toUInt32 % 65536).toInt32))))), (b, .inr (6, [.ref va1, .int (0), .int (ml), .int (nI (n1))])), (va1, .inl (G.2.1 0, ky_cap mm (n1), .inl (f1)))]) [0, 1, 2, 3] (by decide) rfl) hS  _ (lv_sub hl [2, 0, 1] rfl)
set_option linter.constructorNameAsVariable false in
set_option maxHeartbeats 4000000 in
set_option maxRecDepth 100000 in
theorem mt_X3_appendWhole (l : Launch) (G : ky_G) (sc : Nat) (fg : Nat) (fc : Nat → Int32) (b : Nat) (va : Nat) (mm : Nat) (n : Nat) (f : Nat → Int32) (ml : Int32) (a1 : Int64) (sz : Nat) (hm : ky_m2 mm) (hf : ky_fit f) (hch : ky_chs fc) (hn : n ≤ mm) (hq : n + ky_szJ a1 ≤ 34) : Met l my_X3_appendWhole (.code my_X3_appendWhole prog_5_method_9_code 7 none :: ky_B) { frames := 6, cells := ky_gc mm (n + ky_szJ a1), slots := ky_gs mm (n + ky_szJ a1), locals := 126 } (ky_P G [.ref sc, .long (a1)] (ky_WC G sc fg fc b va mm n f ml) sz (fun _ => True)) (ky_Q (S := Nat × (Nat → Int32) × (Nat → Int32)) G (va_A (ky_WC G sc fg fc b va mm n f ml) sz) (fun v u => v = none ∧ ky_fit u.2.1 ∧ ky_chs u.2.2) (fun u => ky_WC G sc fg u.2.2 b u.1 (ky_cap mm (n + ky_szJ a1)) (n + ky_szJ a1) u.2.1 ml) (fun _ _ => True)) (ky_gc mm (n + ky_szJ a1)) (ky_gs mm (n + ky_szJ a1)) (va_A (ky_WC G sc fg fc b va mm n f ml) sz) := by
  refine ky_start (by decide) (Nat.le_of_ble_eq_true rfl) (fun p e s m below meth c F hE A hAe hsz hA hfr hP hD hS hX ls hl => ?_)
  obtain ⟨hx, hb, hml, hown, hr, hlocks, hts⟩ := id F
  have hl : lv_has ls 7 [(0, .ref sc), (1, .long (a1))] := hl
  have hP : va_P G.1 kcl [(sc, .inr (1, [.ref b, .ref fg])), (fg, .inl (G.2.1 1, 19, .inl (fc))), (b, .inr (6, [.ref va, .int (0), .int (ml), .int (nI (n))])), (va, .inl (G.2.1 0, mm, .inl (f)))] s.heap := hP
  have hD : va_D A [(sc, .inr (1, [.ref b, .ref fg])), (fg, .inl (G.2.1 1, 19, .inl (fc))), (b, .inr (6, [.ref va, .int (0), .int (ml), .int (nI (n))])), (va, .inl (G.2.1 0, mm, .inl (f)))] := hD
  refine lv_lload_n hx hb dc_X3_appendWhole_0 rfl (lv_at hl 1 rfl) ?_
  refine lv_lconst (v := 0) hx hb dc_X3_appendWhole_1 (by decide) ?_
  refine W.lcmp hx hb dc_X3_appendWhole_2 ?_
  refine lv_if_ge (tgt := 16) hx hb dc_X3_appendWhole_3 (by decide) (fun c_0 => ?_) (fun c_0 => ?_)
  · skip
    refine lv_lload_n hx hb dc_X3_appendWhole_16 rfl (lv_at hl 1 rfl) ?_
    refine lv_lconst (v := 0) hx hb dc_X3_appendWhole_17 (by decide) ?_
    refine W.lcmp hx hb dc_X3_appendWhole_18 ?_
    refine lv_if_ge (tgt := 26) hx hb dc_X3_appendWhole_19 (by decide) (fun _ => ?_) (fun c_1 => absurd (c_0) c_1)
    refine lv_lload_n hx hb dc_X3_appendWhole_26 rfl (lv_at hl 1 rfl) ?_
    refine lv_lneg hx hb dc_X3_appendWhole_27 ?_
    refine lv_lstore_n (lv' := [(3, .long (-(a1))), (0, .ref sc), (1, .long (a1))]) hx hb dc_X3_appendWhole_28 rfl hl (by decide) rfl (fun ls hl => ?_)
    have hs9 : ¬ a1 < 0 := Int64.not_lt.mpr ((lg_cmp_ge _ _).mp c_0)
    have hv0 : (-(a1)).toInt = -(a1.toInt.natAbs : Int) := ky_absJ.2 hs9
    have hz9 : ky_szJ a1 = ky_d a1.toInt.natAbs + 0 := by unfold ky_szJ; rw [if_neg hs9]
    have hd9 := ky_dJ hv0
    have e0 : ky_cap mm n = mm := ky_cap0 hn
    rw [show ([(sc, .inr (1, [.ref b, .ref fg])), (fg, .inl (G.2.1 1, 19, .inl (fc))), (b, .inr (6, [.ref va, .int (0), .int (ml), .int (nI (n))])), (va, .inl (G.2.1 0, mm, .inl (f)))] : va_W) = [(sc, .inr (1, [.ref b, .ref fg])), (fg, .inl (G.2.1 1, 19, .inl (fc))), (b, .inr (6, [.ref va, .int (0), .int (ml), .int (nI (n))])), (va, .inl (G.2.1 0, ky_cap mm (n), .inl (f)))] by rw [e0]] at hP hD
    refine lv_bipush (v := 19) hx hb dc_X3_appendWhole_29 (by decide) ?_
    refine lv_istore (lv' := [(5, .int ((19 : Int32))), (3, .long (-(a1))), (0, .ref sc), (1, .long (a1))]) hx hb dc_X3_appendWhole_31 hl (by decide) rfl (fun ls hl => ?_)
    refine W.widen (k := ky_gc mm (n)) (n := ky_gs mm (n)) (by first | exact Nat.le_refl _ | omega | exact Nat.zero_le _) (by first | exact Nat.le_refl _ | omega | exact Nat.zero_le _) ?_
    exact ml_X3_appendWhole_L33 (sc := sc) (fg := fg) (fc := fc) (b := b) (va := va) (mm := mm) (n := n) (f := f) (ml := ml) (a1 := a1) F hE hA hfr  hm hn hq (ky_d a1.toInt.natAbs) (-(a1)) a1.toInt.natAbs 19 fc n va f (19 - ky_d a1.toInt.natAbs) hv0 (Nat.le_refl _) (by omega) (by omega) (by omega) hf hch _ _ (hP.sub (ws' := [(sc, .inr (1, [.ref b, .ref fg])), (fg, .inl (G.2.1 1, 19, .inl (fc))), (b, .inr (6, [.ref va, .int (0), .int (ml), .int (nI (n))])), (va, .inl (G.2.1 0, ky_cap mm (n), .inl (f)))]) [0, 1, 2, 3] rfl) (hD.sub (ws' := [(sc, .inr (1, [.ref b, .ref fg])), (fg, .inl (G.2.1 1, 19, .inl (fc))), (b, .inr (6, [.ref va, .int (0), .int (ml), .int (nI (n))])), (va, .inl (G.2.1 0, ky_cap mm (n), .inl (f)))]) [0, 1, 2, 3] (by decide) rfl) hS  _ (lv_sub hl [2, 1, 0] rfl)
  · skip
    have hz1 := (ky_szJ_le a1).1
    refine lv_aload_n hx hb dc_X3_appendWhole_6 rfl (lv_at hl 0 rfl) ?_
    refine va_get (D := G.1) (ci := 1) (v := .ref b) (C := RX3) (T := TX3) (N := 2) hx hb hts ki_X3 hown hE.1 hP 0 rfl rfl 0 (by decide) (hts _ kw_1_78) (fun _ h9 => h9) rfl dc_X3_appendWhole_7 ?_
    refine lv_bipush (v := 45) hx hb dc_X3_appendWhole_10 (by decide) ?_
    refine ky_cVh (As := [.int ((45 : Int32))]) (wr := [(sc, .inr (1, [.ref b, .ref fg])), (fg, .inl (G.2.1 1, 19, .inl (fc)))]) F (hE.at hfr hS) hfr (mt_J4_append_cf468 l G b va mm n f ml (45 : Int32) s.heap.size hm hf (by decide) (by omega)) kv_X3_48 ⟨⟨rfl, rfl⟩, Nat.le_of_ble_eq_true rfl, Nat.le_of_ble_eq_true rfl⟩ rfl hl.1 rfl (Nat.le_of_ble_eq_true rfl) (ky_rc0 hm (by omega) (by omega)) (va_recv hE.1 hP (ci := 6) (q0 := 2) rfl rfl) trivial hP hD hS hA [2, 3] [0, 1] rfl rfl (by decide) (by decide) (by decide) dc_X3_appendWhole_12 ?_
    rintro v9 ⟨va_1, f_1⟩ H locs ⟨rfl, hf_1⟩ hP hD hS - hz hk9
    have hP : va_P G.1 kcl [(sc, .inr (1, [.ref b, .ref fg])), (fg, .inl (G.2.1 1, 19, .inl (fc))), (b, .inr (6, [.ref va_1, .int (0), .int (ml), .int (nI (n + 1))])), (va_1, .inl (G.2.1 0, ky_cap mm (n + 1), .inl (f_1)))] H := hP
    have hD : va_D A [(sc, .inr (1, [.ref b, .ref fg])), (fg, .inl (G.2.1 1, 19, .inl (fc))), (b, .inr (6, [.ref va_1, .int (0), .int (ml), .int (nI (n + 1))])), (va_1, .inl (G.2.1 0, ky_cap mm (n + 1), .inl (f_1)))] := hD
    refine W.widen (k := (ky_gc mm (n + 1))) (n := (ky_gs mm (n + 1))) (by first | exact Nat.le_refl _ | omega) (by first | exact Nat.le_refl _ | omega) ?_
    refine lv_pop hx hb dc_X3_appendWhole_15 rfl ?_
    refine lv_lload_n hx hb dc_X3_appendWhole_16 rfl (lv_at hl 1 rfl) ?_
    refine lv_lconst (v := 0) hx hb dc_X3_appendWhole_17 (by decide) ?_
    refine W.lcmp hx hb dc_X3_appendWhole_18 ?_
    refine lv_if_ge (tgt := 26) hx hb dc_X3_appendWhole_19 (by decide) (fun c_2 => absurd c_2 (c_0)) (fun _ => ?_)
    refine lv_lload_n hx hb dc_X3_appendWhole_22 rfl (lv_at hl 1 rfl) ?_
    refine lv_goto (tgt := 28) hx hb dc_X3_appendWhole_23 (by decide) ?_
    refine lv_lstore_n (lv' := [(3, .long (a1)), (0, .ref sc), (1, .long (a1))]) hx hb dc_X3_appendWhole_28 rfl hl (by decide) rfl (fun ls hl => ?_)
    have hs9 : a1 < 0 := Int64.not_le.mp (fun z => c_0 ((lg_cmp_ge _ _).mpr z))
    have hv0 : (a1).toInt = -(a1.toInt.natAbs : Int) := ky_absJ.1 hs9
    have hz9 : ky_szJ a1 = ky_d a1.toInt.natAbs + 1 := by unfold ky_szJ; rw [if_pos hs9]
    have hd9 := ky_dJ hv0
    refine lv_bipush (v := 19) hx hb dc_X3_appendWhole_29 (by decide) ?_
    refine lv_istore (lv' := [(5, .int ((19 : Int32))), (3, .long (a1)), (0, .ref sc), (1, .long (a1))]) hx hb dc_X3_appendWhole_31 hl (by decide) rfl (fun ls hl => ?_)
    refine W.widen (k := ky_gc mm (n + 1)) (n := ky_gs mm (n + 1)) (by first | exact Nat.le_refl _ | omega | exact Nat.zero_le _) (by first | exact Nat.le_refl _ | omega | exact Nat.zero_le _) ?_
    exact ml_X3_appendWhole_L33 (sc := sc) (fg := fg) (fc := fc) (b := b) (va := va) (mm := mm) (n := n) (f := f) (ml := ml) (a1 := a1) F hE hA hfr  hm hn hq (ky_d a1.toInt.natAbs) a1 a1.toInt.natAbs 19 fc (n + 1) va_1 f_1 (19 - ky_d a1.toInt.natAbs) hv0 (Nat.le_refl _) (by omega) (by omega) (by omega) hf_1 hch _ _ (hP.sub (ws' := [(sc, .inr (1, [.ref b, .ref fg])), (fg, .inl (G.2.1 1, 19, .inl (fc))), (b, .inr (6, [.ref va_1, .int (0), .int (ml), .int (nI (n + 1))])), (va_1, .inl (G.2.1 0, ky_cap mm (n + 1), .inl (f_1)))]) [0, 1, 2, 3] rfl) (hD.sub (ws' := [(sc, .inr (1, [.ref b, .ref fg])), (fg, .inl (G.2.1 1, 19, .inl (fc))), (b, .inr (6, [.ref va_1, .int (0), .int (ml), .int (nI (n + 1))])), (va_1, .inl (G.2.1 0, ky_cap mm (n + 1), .inl (f_1)))]) [0, 1, 2, 3] (by decide) rfl) hS  _ (lv_sub hl [2, 1, 0] rfl)
set_option linter.constructorNameAsVariable false in
set_option maxHeartbeats 4000000 in
set_option maxRecDepth 100000 in
theorem ml_X3_appendSize_L10 {p : Program} {l : Launch} {e : Env} {s : State} {m : MethodId} {args : Array Value} {below : List Frame} {meth : Method} {c : Code} {G : ky_G} {A : Nat → Prop} {sc : Nat} {fg : Nat} {fc : Nat → Int32} {b : Nat} {va : Nat} {mm : Nat} {n : Nat} {f : Nat → Int32} {ml : Int32} {a1 : Int64} {a2 : Int32} (F : ky_F p s m meth c my_X3_appendSize.cls prog_5_method_8_code 8 none args) (hE : ky_E G s) (hA : ∀ q, s.heap.size ≤ q → A q) (hfr : ∀ q, A q → ky_fr G q)  (hm : ky_m2 mm) (hf : ky_fit f) (hch : ky_chs fc) (hn : n ≤ mm) (hq : n + ky_szJ (ky_od 7 a1 a2).1 + 3 + ky_szI (ky_od 7 a1 a2).2 ≤ 34) : ∀ (n9 : Nat) (o9 : Int64) (p9 : Int32) (sh : Int32) (hs : sh = ky_sh n9) (hn7 : n9 ≤ 7) (hn1 : 1 ≤ n9) (hR : ky_od n9 o9 p9 = ky_od 7 a1 a2) (H : Heap) (locs : List Loc), va_P G.1 kcl [(sc, .inr (1, [.ref b, .ref fg])), (fg, .inl (G.2.1 1, 19, .inl (fc))), (b, .inr (6, [.ref va, .int (0), .int (ml), .int (nI (n))])), (va, .inl (G.2.1 0, mm, .inl (f)))] H → va_D A [(sc, .inr (1, [.ref b, .ref fg])), (fg, .inl (G.2.1 1, 19, .inl (fc))), (b, .inr (6, [.ref va, .int (0), .int (ml), .int (nI (n))])), (va, .inl (G.2.1 0, mm, .inl (f)))] → va_S A s.heap H locs →  ∀ ls : Array Slot, lv_has ls 8 [(0, .ref sc), (4, .long (o9)), (6, .int (p9)), (7, .int (sh))] → W p l e { frames := 7, cells := ky_gc mm (n + ky_szJ (ky_od 7 a1 a2).1 + 3 + ky_szI (ky_od 7 a1 a2).2), slots := ky_gs mm (n + ky_szJ (ky_od 7 a1 a2).1 + 3 + ky_szI (ky_od 7 a1 a2).2), locals := 152 } s m args below meth c H locs (0) (0) (MQ below (ky_Q (S := Nat × (Nat → Int32) × (Nat → Int32)) G A (fun v u => v = none ∧ ky_fit u.2.1 ∧ ky_chs u.2.2) (fun u => ky_WC G sc fg u.2.2 b u.1 (ky_cap mm (n + ky_szJ (ky_od 7 a1 a2).1 + 3 + ky_szI (ky_od 7 a1 a2).2)) (n + ky_szJ (ky_od 7 a1 a2).1 + 3 + ky_szI (ky_od 7 a1 a2).2) u.2.1 ml) (fun _ _ => True)) args s (ky_gc mm (n + ky_szJ (ky_od 7 a1 a2).1 + 3 + ky_szI (ky_od 7 a1 a2).2)) (ky_gs mm (n + ky_szJ (ky_od 7 a1 a2).1 + 3 + ky_szI (ky_od 7 a1 a2).2)) A) (F0 m 10 ls []) := by
  obtain ⟨hx, hb, hml, hown, hr, hlocks, hts⟩ := id F
  intro n9
  induction n9 with
  | zero => intro o9 p9 sh hs hn7 hn1 hR; exact False.elim (by omega)
  | succ n9 ih =>
      intro o9 p9 sh hs hn7 hn1 hR H locs hP hD hS  ls hl
      subst hs
      refine lv_iload hx hb dc_X3_appendSize_10 (lv_at hl 3 rfl) ?_
      refine lv_if_le (tgt := 52) hx hb dc_X3_appendSize_12 (by decide) (fun c_0 => ?_) (fun c_0 => ?_)
      · skip
        obtain ⟨eo, ep⟩ := ky_odE hR c_0
        subst eo
        subst ep
        refine lv_aload_n hx hb dc_X3_appendSize_52 rfl (lv_at hl 0 rfl) ?_
        refine lv_lload hx hb dc_X3_appendSize_53 (lv_at hl 1 rfl) ?_
        refine ky_cVh (As := [.long (((ky_od 7 a1 a2).1))]) (wr := []) F (hE.at hfr hS) hfr (mt_X3_appendWhole l G sc fg fc b va mm n f ml ((ky_od 7 a1 a2).1) H.size hm hf hch hn (by omega)) kv_X3_39 ⟨⟨rfl, rfl⟩, Nat.le_of_ble_eq_true rfl, Nat.le_of_ble_eq_true rfl⟩ rfl hl.1 rfl (Nat.le_of_ble_eq_true rfl) (ky_rc0 hm (by omega) (by omega)) (va_recv hE.1 hP (ci := 1) (q0 := 0) rfl rfl) trivial hP hD hS hA [0, 1, 2, 3] [] rfl rfl (by decide) (by decide) (by decide) dc_X3_appendSize_55 ?_
        rintro v9 ⟨va_1, f_1, fc_1⟩ H locs ⟨rfl, hf_1, hc_1⟩ hP hD hS - hz hk9
        have hP : va_P G.1 kcl [(sc, .inr (1, [.ref b, .ref fg])), (fg, .inl (G.2.1 1, 19, .inl (fc_1))), (b, .inr (6, [.ref va_1, .int (0), .int (ml), .int (nI (n + ky_szJ ((ky_od 7 a1 a2).1)))])), (va_1, .inl (G.2.1 0, ky_cap mm (n + ky_szJ ((ky_od 7 a1 a2).1)), .inl (f_1)))] H := hP
        have hD : va_D A [(sc, .inr (1, [.ref b, .ref fg])), (fg, .inl (G.2.1 1, 19, .inl (fc_1))), (b, .inr (6, [.ref va_1, .int (0), .int (ml), .int (nI (n + ky_szJ ((ky_od 7 a1 a2).1)))])), (va_1, .inl (G.2.1 0, ky_cap mm (n + ky_szJ ((ky_od 7 a1 a2).1)), .inl (f_1)))] := hD
        refine W.widen (k := (ky_gc mm (n + ky_szJ ((ky_od 7 a1 a2).1)))) (n := (ky_gs mm (n + ky_szJ ((ky_od 7 a1 a2).1)))) (by first | exact Nat.le_refl _ | omega) (by first | exact Nat.le_refl _ | omega) ?_
        refine lv_aload_n hx hb dc_X3_appendSize_58 rfl (lv_at hl 0 rfl) ?_
        refine va_get (D := G.1) (ci := 1) (v := .ref b) (C := RX3) (T := TX3) (N := 2) hx hb hts ki_X3 hown hE.1 hP 0 rfl rfl 0 (by decide) (hts _ kw_1_78) (fun _ h9 => h9) rfl dc_X3_appendSize_59 ?_
        obtain ⟨k_2, hR_2, hZ_2⟩ := ky_s1 hE
        refine va_ldcS hx hb hown hR_2 dc_X3_appendSize_62 ?_
        refine ky_cVh (As := [.ref k_2]) (wr := [(sc, .inr (1, [.ref b, .ref fg])), (fg, .inl (G.2.1 1, 19, .inl (fc_1)))]) F (hE.at hfr hS) hfr (mt_J4_append_15ec4 l G b va_1 (ky_cap mm (n + ky_szJ ((ky_od 7 a1 a2).1))) (n + ky_szJ ((ky_od 7 a1 a2).1)) f_1 ml k_2 3 (fun j => ([42, 50, 94] : List Int32).getD j 0) H.size hm.cap hf_1 hZ_2 (by omega)) kv_X3_72 ⟨⟨rfl, rfl⟩, Nat.le_of_ble_eq_true rfl, Nat.le_of_ble_eq_true rfl⟩ rfl hl.1 rfl (Nat.le_of_ble_eq_true rfl) (ky_rc hm (by omega) (by omega) (by omega)) (va_recv hE.1 hP (ci := 6) (q0 := 2) rfl rfl) trivial hP hD hS hA [2, 3] [0, 1] rfl rfl (by decide) (by decide) (by decide) dc_X3_appendSize_64 ?_
        rintro v9 ⟨va_3, f_3⟩ H locs ⟨rfl, hf_3⟩ hP hD hS - hz hk9
        rw [show ky_cap (ky_cap mm (n + ky_szJ ((ky_od 7 a1 a2).1))) (n + ky_szJ ((ky_od 7 a1 a2).1) + 3) = ky_cap mm (n + ky_szJ ((ky_od 7 a1 a2).1) + 3) from ky_capc hm (by omega) (by omega)] at hP hD
        have hP : va_P G.1 kcl [(sc, .inr (1, [.ref b, .ref fg])), (fg, .inl (G.2.1 1, 19, .inl (fc_1))), (b, .inr (6, [.ref va_3, .int (0), .int (ml), .int (nI (n + ky_szJ ((ky_od 7 a1 a2).1) + 3))])), (va_3, .inl (G.2.1 0, ky_cap mm (n + ky_szJ ((ky_od 7 a1 a2).1) + 3), .inl (f_3)))] H := hP
        have hD : va_D A [(sc, .inr (1, [.ref b, .ref fg])), (fg, .inl (G.2.1 1, 19, .inl (fc_1))), (b, .inr (6, [.ref va_3, .int (0), .int (ml), .int (nI (n + ky_szJ ((ky_od 7 a1 a2).1) + 3))])), (va_3, .inl (G.2.1 0, ky_cap mm (n + ky_szJ ((ky_od 7 a1 a2).1) + 3), .inl (f_3)))] := hD
        refine W.widen (k := ky_gc mm (n + ky_szJ ((ky_od 7 a1 a2).1) + 3)) (n := ky_gs mm (n + ky_szJ ((ky_od 7 a1 a2).1) + 3)) (by rw [ky_gcc hm (by omega) (by omega)]; exact Nat.le_refl _) (by rw [ky_gsc hm (by omega) (by omega)]; exact Nat.le_refl _) ?_
        refine lv_pop hx hb dc_X3_appendSize_67 rfl ?_
        refine lv_aload_n hx hb dc_X3_appendSize_68 rfl (lv_at hl 0 rfl) ?_
        refine va_get (D := G.1) (ci := 1) (v := .ref b) (C := RX3) (T := TX3) (N := 2) hx hb hts ki_X3 hown hE.1 hP 0 rfl rfl 0 (by decide) (hts _ kw_1_78) (fun _ h9 => h9) rfl dc_X3_appendSize_69 ?_
        refine lv_iload hx hb dc_X3_appendSize_72 (lv_at hl 2 rfl) ?_
        refine ky_cVh (As := [.int (((ky_od 7 a1 a2).2))]) (wr := [(sc, .inr (1, [.ref b, .ref fg])), (fg, .inl (G.2.1 1, 19, .inl (fc_1)))]) F (hE.at hfr hS) hfr (mt_J4_append_bf812 l G b va_3 (ky_cap mm (n + ky_szJ ((ky_od 7 a1 a2).1) + 3)) (n + ky_szJ ((ky_od 7 a1 a2).1) + 3) f_3 ml ((ky_od 7 a1 a2).2) H.size hm.cap hf_3 (by omega)) kv_X3_75 ⟨⟨rfl, rfl⟩, Nat.le_of_ble_eq_true rfl, Nat.le_of_ble_eq_true rfl⟩ rfl hl.1 rfl (Nat.le_of_ble_eq_true rfl) (ky_rc hm (by omega) (by omega) (by omega)) (va_recv hE.1 hP (ci := 6) (q0 := 2) rfl rfl) trivial hP hD hS hA [2, 3] [0, 1] rfl rfl (by decide) (by decide) (by decide) dc_X3_appendSize_74 ?_
        rintro v9 ⟨va_4, f_4⟩ H locs ⟨rfl, hf_4⟩ hP hD hS - hz hk9
        rw [show ky_cap (ky_cap mm (n + ky_szJ ((ky_od 7 a1 a2).1) + 3)) (n + ky_szJ ((ky_od 7 a1 a2).1) + 3 + ky_szI ((ky_od 7 a1 a2).2)) = ky_cap mm (n + ky_szJ ((ky_od 7 a1 a2).1) + 3 + ky_szI ((ky_od 7 a1 a2).2)) from ky_capc hm (by omega) (by omega)] at hP hD
        have hP : va_P G.1 kcl [(sc, .inr (1, [.ref b, .ref fg])), (fg, .inl (G.2.1 1, 19, .inl (fc_1))), (b, .inr (6, [.ref va_4, .int (0), .int (ml), .int (nI (n + ky_szJ ((ky_od 7 a1 a2).1) + 3 + ky_szI ((ky_od 7 a1 a2).2)))])), (va_4, .inl (G.2.1 0, ky_cap mm (n + ky_szJ ((ky_od 7 a1 a2).1) + 3 + ky_szI ((ky_od 7 a1 a2).2)), .inl (f_4)))] H := hP
        have hD : va_D A [(sc, .inr (1, [.ref b, .ref fg])), (fg, .inl (G.2.1 1, 19, .inl (fc_1))), (b, .inr (6, [.ref va_4, .int (0), .int (ml), .int (nI (n + ky_szJ ((ky_od 7 a1 a2).1) + 3 + ky_szI ((ky_od 7 a1 a2).2)))])), (va_4, .inl (G.2.1 0, ky_cap mm (n + ky_szJ ((ky_od 7 a1 a2).1) + 3 + ky_szI ((ky_od 7 a1 a2).2)), .inl (f_4)))] := hD
        refine W.widen (k := ky_gc mm (n + ky_szJ ((ky_od 7 a1 a2).1) + 3 + ky_szI ((ky_od 7 a1 a2).2))) (n := ky_gs mm (n + ky_szJ ((ky_od 7 a1 a2).1) + 3 + ky_szI ((ky_od 7 a1 a2).2))) (by rw [ky_gcc hm (by omega) (by omega)]; exact Nat.le_refl _) (by rw [ky_gsc hm (by omega) (by omega)]; exact Nat.le_refl _) ?_
        refine lv_pop hx hb dc_X3_appendSize_77 rfl ?_
        have hP9 := hP.sub (ws' := [(sc, .inr (1, [.ref b, .ref fg])), (fg, .inl (G.2.1 1, 19, .inl (fc_1))), (b, .inr (6, [.ref va_4, .int (0), .int (ml), .int (nI (n + ky_szJ ((ky_od 7 a1 a2).1) + 3 + ky_szI ((ky_od 7 a1 a2).2)))])), (va_4, .inl (G.2.1 0, ky_cap mm (n + ky_szJ ((ky_od 7 a1 a2).1) + 3 + ky_szI ((ky_od 7 a1 a2).2)), .inl (f_4)))]) [0, 1, 2, 3] rfl
        have hD9 := hD.sub (ws' := [(sc, .inr (1, [.ref b, .ref fg])), (fg, .inl (G.2.1 1, 19, .inl (fc_1))), (b, .inr (6, [.ref va_4, .int (0), .int (ml), .int (nI (n + ky_szJ ((ky_od 7 a1 a2).1) + 3 + ky_szI ((ky_od 7 a1 a2).2)))])), (va_4, .inl (G.2.1 0, ky_cap mm (n + ky_szJ ((ky_od 7 a1 a2).1) + 3 + ky_szI ((ky_od 7 a1 a2).2)), .inl (f_4)))]) [0, 1, 2, 3] (by decide) rfl
        refine W.widen (k := ky_gc mm (n + ky_szJ (ky_od 7 a1 a2).1 + 3 + ky_szI (ky_od 7 a1 a2).2)) (n := ky_gs mm (n + ky_szJ (ky_od 7 a1 a2).1 + 3 + ky_szI (ky_od 7 a1 a2).2)) (by omega) (by omega) ?_
        exact W.vret hx hb hr (fun t ht hW => ⟨⟨_, (va_4, f_4, fc_1), rfl, ⟨rfl, hf_4, hc_1⟩, by rw [ht]; exact hP9, hD9, trivial⟩, hS.F ht⟩) hS.2.2 dc_X3_appendSize_78
      · skip
        refine lv_lload hx hb dc_X3_appendSize_15 (lv_at hl 1 rfl) ?_
        refine lv_lconst (v := 1) hx hb dc_X3_appendSize_17 (by decide) ?_
        refine lv_iload hx hb dc_X3_appendSize_18 (lv_at hl 3 rfl) ?_
        refine lv_lshl (v := jlshl ((1 : Int64)) ((ky_sh (n9 + 1)))) hx hb dc_X3_appendSize_20 rfl ?_
        refine lv_lconst (v := 1) hx hb dc_X3_appendSize_21 (by decide) ?_
        refine lv_lsub hx hb dc_X3_appendSize_22 ?_
        refine lv_land hx hb dc_X3_appendSize_23 ?_
        refine lv_lconst (v := 0) hx hb dc_X3_appendSize_24 (by decide) ?_
        refine W.lcmp hx hb dc_X3_appendSize_25 ?_
        refine lv_if_ne (tgt := 43) hx hb dc_X3_appendSize_26 (by decide) (fun c_1 => ?_) (fun c_1 => ?_)
        · skip
          refine lv_iload hx hb dc_X3_appendSize_43 (lv_at hl 3 rfl) ?_
          refine lv_iconst (v := 1) hx hb dc_X3_appendSize_45 (by decide) ?_
          refine lv_ishr hx hb dc_X3_appendSize_46 ?_
          refine lv_istore (lv' := [(7, .int (((ky_sh (n9 + 1))) >>> (((1 : Int32)) &&& 31))), (0, .ref sc), (4, .long (o9)), (6, .int (p9))]) hx hb dc_X3_appendSize_47 hl (by decide) rfl (fun ls hl => ?_)
          refine lv_goto (tgt := 10) hx hb dc_X3_appendSize_49 (by decide) ?_
          have hx9 := ky_sh_next n9 (by omega) c_0
          have hR2 := (ky_od2 c_0 (fun z => c_1 ((lg_cmp_eq _ _).mpr z))).symm.trans hR
          refine W.widen (k := 0) (n := 0) (by first | exact Nat.le_refl _ | omega | exact Nat.zero_le _) (by first | exact Nat.le_refl _ | omega | exact Nat.zero_le _) ?_
          exact ih o9 p9 (((ky_sh (n9 + 1))) >>> (((1 : Int32)) &&& 31)) hx9.1 (by omega) hx9.2 hR2 _ _ (hP.sub (ws' := [(sc, .inr (1, [.ref b, .ref fg])), (fg, .inl (G.2.1 1, 19, .inl (fc))), (b, .inr (6, [.ref va, .int (0), .int (ml), .int (nI (n))])), (va, .inl (G.2.1 0, mm, .inl (f)))]) [0, 1, 2, 3] rfl) (hD.sub (ws' := [(sc, .inr (1, [.ref b, .ref fg])), (fg, .inl (G.2.1 1, 19, .inl (fc))), (b, .inr (6, [.ref va, .int (0), .int (ml), .int (nI (n))])), (va, .inl (G.2.1 0, mm, .inl (f)))]) [0, 1, 2, 3] (by decide) rfl) hS  _ (lv_sub hl [1, 2, 3, 0] rfl)
        · skip
          refine lv_lload hx hb dc_X3_appendSize_29 (lv_at hl 1 rfl) ?_
          refine lv_iload hx hb dc_X3_appendSize_31 (lv_at hl 3 rfl) ?_
          refine lv_lushr (v := jlushr (o9) ((ky_sh (n9 + 1)))) hx hb dc_X3_appendSize_33 rfl ?_
          refine lv_lstore (lv' := [(4, .long (jlushr (o9) ((ky_sh (n9 + 1))))), (0, .ref sc), (6, .int (p9)), (7, .int ((ky_sh (n9 + 1))))]) hx hb dc_X3_appendSize_34 hl (by decide) rfl (fun ls hl => ?_)
          refine lv_iload hx hb dc_X3_appendSize_36 (lv_at hl 2 rfl) ?_
          refine lv_iload hx hb dc_X3_appendSize_38 (lv_at hl 3 rfl) ?_
          refine lv_iadd hx hb dc_X3_appendSize_40 ?_
          refine lv_istore (lv' := [(6, .int ((p9) + ((ky_sh (n9 + 1))))), (4, .long (jlushr (o9) ((ky_sh (n9 + 1))))), (0, .ref sc), (7, .int ((ky_sh (n9 + 1))))]) hx hb dc_X3_appendSize_41 hl (by decide) rfl (fun ls hl => ?_)
          refine lv_iload hx hb dc_X3_appendSize_43 (lv_at hl 3 rfl) ?_
          refine lv_iconst (v := 1) hx hb dc_X3_appendSize_45 (by decide) ?_
          refine lv_ishr hx hb dc_X3_appendSize_46 ?_
          refine lv_istore (lv' := [(7, .int (((ky_sh (n9 + 1))) >>> (((1 : Int32)) &&& 31))), (6, .int ((p9) + ((ky_sh (n9 + 1))))), (4, .long (jlushr (o9) ((ky_sh (n9 + 1))))), (0, .ref sc)]) hx hb dc_X3_appendSize_47 hl (by decide) rfl (fun ls hl => ?_)
          refine lv_goto (tgt := 10) hx hb dc_X3_appendSize_49 (by decide) ?_
          have hx9 := ky_sh_next n9 (by omega) c_0
          have hR2 := (ky_od1 c_0 ((lg_cmp_eq _ _).mp c_1)).symm.trans hR
          refine W.widen (k := 0) (n := 0) (by first | exact Nat.le_refl _ | omega | exact Nat.zero_le _) (by first | exact Nat.le_refl _ | omega | exact Nat.zero_le _) ?_
          exact ih (jlushr (o9) ((ky_sh (n9 + 1)))) ((p9) + ((ky_sh (n9 + 1)))) (((ky_sh (n9 + 1))) >>> (((1 : Int32)) &&& 31)) hx9.1 (by omega) hx9.2 hR2 _ _ (hP.sub (ws' := [(sc, .inr (1, [.ref b, .ref fg])), (fg, .inl (G.2.1 1, 19, .inl (fc))), (b, .inr (6, [.ref va, .int (0), .int (ml), .int (nI (n))])), (va, .inl (G.2.1 0, mm, .inl (f)))]) [0, 1, 2, 3] rfl) (hD.sub (ws' := [(sc, .inr (1, [.ref b, .ref fg])), (fg, .inl (G.2.1 1, 19, .inl (fc))), (b, .inr (6, [.ref va, .int (0), .int (ml), .int (nI (n))])), (va, .inl (G.2.1 0, mm, .inl (f)))]) [0, 1, 2, 3] (by decide) rfl) hS  _ (lv_sub hl [3, 2, 1, 0] rfl)
set_option linter.constructorNameAsVariable false in
set_option maxHeartbeats 4000000 in
set_option maxRecDepth 100000 in
theorem mt_X3_appendSize (l : Launch) (G : ky_G) (sc : Nat) (fg : Nat) (fc : Nat → Int32) (b : Nat) (va : Nat) (mm : Nat) (n : Nat) (f : Nat → Int32) (ml : Int32) (a1 : Int64) (a2 : Int32) (sz : Nat) (hm : ky_m2 mm) (hf : ky_fit f) (hch : ky_chs fc) (hn : n ≤ mm) (hq : n + ky_szJ (ky_od 7 a1 a2).1 + 3 + ky_szI (ky_od 7 a1 a2).2 ≤ 34) : Met l my_X3_appendSize (.code my_X3_appendSize prog_5_method_8_code 8 none :: ky_B) { frames := 7, cells := ky_gc mm (n + ky_szJ (ky_od 7 a1 a2).1 + 3 + ky_szI (ky_od 7 a1 a2).2), slots := ky_gs mm (n + ky_szJ (ky_od 7 a1 a2).1 + 3 + ky_szI (ky_od 7 a1 a2).2), locals := 152 } (ky_P G [.ref sc, .long (a1), .int (a2)] (ky_WC G sc fg fc b va mm n f ml) sz (fun _ => True)) (ky_Q (S := Nat × (Nat → Int32) × (Nat → Int32)) G (va_A (ky_WC G sc fg fc b va mm n f ml) sz) (fun v u => v = none ∧ ky_fit u.2.1 ∧ ky_chs u.2.2) (fun u => ky_WC G sc fg u.2.2 b u.1 (ky_cap mm (n + ky_szJ (ky_od 7 a1 a2).1 + 3 + ky_szI (ky_od 7 a1 a2).2)) (n + ky_szJ (ky_od 7 a1 a2).1 + 3 + ky_szI (ky_od 7 a1 a2).2) u.2.1 ml) (fun _ _ => True)) (ky_gc mm (n + ky_szJ (ky_od 7 a1 a2).1 + 3 + ky_szI (ky_od 7 a1 a2).2)) (ky_gs mm (n + ky_szJ (ky_od 7 a1 a2).1 + 3 + ky_szI (ky_od 7 a1 a2).2)) (va_A (ky_WC G sc fg fc b va mm n f ml) sz) := by
  refine ky_start (by decide) (Nat.le_of_ble_eq_true rfl) (fun p e s m below meth c F hE A hAe hsz hA hfr hP hD hS hX ls hl => ?_)
  obtain ⟨hx, hb, hml, hown, hr, hlocks, hts⟩ := id F
  have hl : lv_has ls 8 [(0, .ref sc), (1, .long (a1)), (3, .int (a2))] := hl
  have hP : va_P G.1 kcl [(sc, .inr (1, [.ref b, .ref fg])), (fg, .inl (G.2.1 1, 19, .inl (fc))), (b, .inr (6, [.ref va, .int (0), .int (ml), .int (nI (n))])), (va, .inl (G.2.1 0, mm, .inl (f)))] s.heap := hP
  have hD : va_D A [(sc, .inr (1, [.ref b, .ref fg])), (fg, .inl (G.2.1 1, 19, .inl (fc))), (b, .inr (6, [.ref va, .int (0), .int (ml), .int (nI (n))])), (va, .inl (G.2.1 0, mm, .inl (f)))] := hD
  refine lv_lload_n hx hb dc_X3_appendSize_0 rfl (lv_at hl 1 rfl) ?_
  refine lv_lstore (lv' := [(4, .long (a1)), (0, .ref sc), (1, .long (a1)), (3, .int (a2))]) hx hb dc_X3_appendSize_1 hl (by decide) rfl (fun ls hl => ?_)
  refine lv_iload_n hx hb dc_X3_appendSize_3 rfl (lv_at hl 3 rfl) ?_
  refine lv_istore (lv' := [(6, .int (a2)), (4, .long (a1)), (0, .ref sc), (1, .long (a1)), (3, .int (a2))]) hx hb dc_X3_appendSize_4 hl (by decide) rfl (fun ls hl => ?_)
  refine lv_bipush (v := 32) hx hb dc_X3_appendSize_6 (by decide) ?_
  refine lv_istore (lv' := [(7, .int ((32 : Int32))), (6, .int (a2)), (4, .long (a1)), (0, .ref sc), (1, .long (a1)), (3, .int (a2))]) hx hb dc_X3_appendSize_8 hl (by decide) rfl (fun ls hl => ?_)
  refine W.widen (k := 0) (n := 0) (by first | exact Nat.le_refl _ | omega | exact Nat.zero_le _) (by first | exact Nat.le_refl _ | omega | exact Nat.zero_le _) ?_
  exact ml_X3_appendSize_L10 (sc := sc) (fg := fg) (fc := fc) (b := b) (va := va) (mm := mm) (n := n) (f := f) (ml := ml) (a1 := a1) (a2 := a2) F hE hA hfr  hm hf hch hn hq (7) a1 a2 (32 : Int32) rfl (Nat.le_refl _) (by decide) rfl _ _ (hP.sub (ws' := [(sc, .inr (1, [.ref b, .ref fg])), (fg, .inl (G.2.1 1, 19, .inl (fc))), (b, .inr (6, [.ref va, .int (0), .int (ml), .int (nI (n))])), (va, .inl (G.2.1 0, mm, .inl (f)))]) [0, 1, 2, 3] rfl) (hD.sub (ws' := [(sc, .inr (1, [.ref b, .ref fg])), (fg, .inl (G.2.1 1, 19, .inl (fc))), (b, .inr (6, [.ref va, .int (0), .int (ml), .int (nI (n))])), (va, .inl (G.2.1 0, mm, .inl (f)))]) [0, 1, 2, 3] (by decide) rfl) hS  _ (lv_sub hl [3, 2, 1, 0] rfl)
set_option linter.constructorNameAsVariable false in
set_option maxHeartbeats 4000000 in
set_option maxRecDepth 100000 in
theorem mt_X3_writeWhole (l : Launch) (G : ky_G) (sc : Nat) (fg : Nat) (fc : Nat → Int32) (b : Nat) (va : Nat) (mm : Nat) (n : Nat) (f : Nat → Int32) (ml : Int32) (a1 : Int64) (sz : Nat) (hm : ky_m2 mm) (hf : ky_fit f) (hch : ky_chs fc) (hn : n ≤ mm) : Met l my_X3_writeWhole (.code my_X3_writeWhole prog_5_method_6_code 3 none :: ky_B) { frames := 7, cells := 1, slots := 34, locals := 152 } (ky_P G [.ref sc, .long (a1)] (ky_WC G sc fg fc b va mm n f ml) sz (fun _ => True)) (ky_Q (S := Nat × Nat × (Nat → Int32) × Int32 × (Nat → Int32)) G (va_A (ky_WC G sc fg fc b va mm n f ml) sz) (fun v u => v = none ∧ ky_m2 u.2.1 ∧ (0 + ky_szJ a1) ≤ u.2.1 ∧ ky_fit u.2.2.1 ∧ ky_chs u.2.2.2.2) (fun u => ky_WC G sc fg u.2.2.2.2 b u.1 u.2.1 (0 + ky_szJ a1) u.2.2.1 u.2.2.2.1) (fun _ _ => True)) (1) (34) (va_A (ky_WC G sc fg fc b va mm n f ml) sz) := by
  refine ky_start (by decide) (Nat.le_of_ble_eq_true rfl) (fun p e s m below meth c F hE A hAe hsz hA hfr hP hD hS hX ls hl => ?_)
  obtain ⟨hx, hb, hml, hown, hr, hlocks, hts⟩ := id F
  have hl : lv_has ls 3 [(0, .ref sc), (1, .long (a1))] := hl
  have hP : va_P G.1 kcl [(sc, .inr (1, [.ref b, .ref fg])), (fg, .inl (G.2.1 1, 19, .inl (fc))), (b, .inr (6, [.ref va, .int (0), .int (ml), .int (nI (n))])), (va, .inl (G.2.1 0, mm, .inl (f)))] s.heap := hP
  have hD : va_D A [(sc, .inr (1, [.ref b, .ref fg])), (fg, .inl (G.2.1 1, 19, .inl (fc))), (b, .inr (6, [.ref va, .int (0), .int (ml), .int (nI (n))])), (va, .inl (G.2.1 0, mm, .inl (f)))] := hD
  have hm34 : mm ≤ 34 := by have := (hm.le (Nat.zero_le 34)).2; omega
  have hz9 := ky_szJ_le a1
  refine lv_aload_n hx hb dc_X3_writeWhole_0 rfl (lv_at hl 0 rfl) ?_
  refine va_get (D := G.1) (ci := 1) (v := .ref b) (C := RX3) (T := TX3) (N := 2) hx hb hts ki_X3 hown hE.1 hP 0 rfl rfl 0 (by decide) (hts _ kw_1_78) (fun _ h9 => h9) rfl dc_X3_writeWhole_1 ?_
  refine lv_iconst (v := 0) hx hb dc_X3_writeWhole_4 (by decide) ?_
  refine ky_cVh (As := [.int ((0 : Int32))]) (wr := [(sc, .inr (1, [.ref b, .ref fg])), (fg, .inl (G.2.1 1, 19, .inl (fc)))]) F (hE.at hfr hS) hfr (mt_J4_setLength_d00df l G b va mm n f ml s.heap.size hm hf (by have := (hm.le (Nat.zero_le 34)).2; omega)) kv_X3_35 ⟨⟨rfl, rfl⟩, Nat.le_of_ble_eq_true rfl, Nat.le_of_ble_eq_true rfl⟩ rfl hl.1 rfl (Nat.le_of_ble_eq_true rfl) (ky_rc2) (va_recv hE.1 hP (ci := 6) (q0 := 2) rfl rfl) trivial hP hD hS hA [2, 3] [0, 1] rfl rfl (by decide) (by decide) (by decide) dc_X3_writeWhole_5 ?_
  rintro v9 ⟨va_0, f_0, ml_0⟩ H locs ⟨rfl, hf_0⟩ hP hD hS - hz hk9
  have hP : va_P G.1 kcl [(sc, .inr (1, [.ref b, .ref fg])), (fg, .inl (G.2.1 1, 19, .inl (fc))), (b, .inr (6, [.ref va_0, .int (0), .int (ml_0), .int (nI (0))])), (va_0, .inl (G.2.1 0, mm, .inl (f_0)))] H := hP
  have hD : va_D A [(sc, .inr (1, [.ref b, .ref fg])), (fg, .inl (G.2.1 1, 19, .inl (fc))), (b, .inr (6, [.ref va_0, .int (0), .int (ml_0), .int (nI (0))])), (va_0, .inl (G.2.1 0, mm, .inl (f_0)))] := hD
  refine W.widen (k := 0) (n := 0) (by rw [ky_gc0]; exact Nat.le_refl _) (by rw [ky_gs0]; exact Nat.le_refl _) ?_
  refine lv_aload_n hx hb dc_X3_writeWhole_8 rfl (lv_at hl 0 rfl) ?_
  refine lv_lload_n hx hb dc_X3_writeWhole_9 rfl (lv_at hl 1 rfl) ?_
  refine ky_cVh (As := [.long (a1)]) (wr := []) F (hE.at hfr hS) hfr (mt_X3_appendWhole l G sc fg fc b va_0 mm 0 f_0 ml_0 a1 H.size hm hf_0 hch (Nat.zero_le _) (by omega)) kv_X3_39 ⟨⟨rfl, rfl⟩, Nat.le_of_ble_eq_true rfl, Nat.le_of_ble_eq_true rfl⟩ rfl hl.1 rfl (Nat.le_of_ble_eq_true rfl) (ky_rc2) (va_recv hE.1 hP (ci := 1) (q0 := 0) rfl rfl) trivial hP hD hS hA [0, 1, 2, 3] [] rfl rfl (by decide) (by decide) (by decide) dc_X3_writeWhole_10 ?_
  rintro v9 ⟨va_1, f_1, fc_1⟩ H locs ⟨rfl, hf_1, hc_1⟩ hP hD hS - hz hk9
  have hP : va_P G.1 kcl [(sc, .inr (1, [.ref b, .ref fg])), (fg, .inl (G.2.1 1, 19, .inl (fc_1))), (b, .inr (6, [.ref va_1, .int (0), .int (ml_0), .int (nI (0 + ky_szJ a1))])), (va_1, .inl (G.2.1 0, ky_cap mm (0 + ky_szJ a1), .inl (f_1)))] H := hP
  have hD : va_D A [(sc, .inr (1, [.ref b, .ref fg])), (fg, .inl (G.2.1 1, 19, .inl (fc_1))), (b, .inr (6, [.ref va_1, .int (0), .int (ml_0), .int (nI (0 + ky_szJ a1))])), (va_1, .inl (G.2.1 0, ky_cap mm (0 + ky_szJ a1), .inl (f_1)))] := hD
  refine W.widen (k := (ky_gc mm (0 + ky_szJ a1))) (n := (ky_gs mm (0 + ky_szJ a1))) (by first | exact Nat.le_refl _ | omega) (by first | exact Nat.le_refl _ | omega) ?_
  have hP9 := hP.sub (ws' := [(sc, .inr (1, [.ref b, .ref fg])), (fg, .inl (G.2.1 1, 19, .inl (fc_1))), (b, .inr (6, [.ref va_1, .int (0), .int (ml_0), .int (nI (0 + ky_szJ a1))])), (va_1, .inl (G.2.1 0, ky_cap mm (0 + ky_szJ a1), .inl (f_1)))]) [0, 1, 2, 3] rfl
  have hD9 := hD.sub (ws' := [(sc, .inr (1, [.ref b, .ref fg])), (fg, .inl (G.2.1 1, 19, .inl (fc_1))), (b, .inr (6, [.ref va_1, .int (0), .int (ml_0), .int (nI (0 + ky_szJ a1))])), (va_1, .inl (G.2.1 0, ky_cap mm (0 + ky_szJ a1), .inl (f_1)))]) [0, 1, 2, 3] (by decide) rfl
  refine W.widen (k := 1) (n := 34) ((ky_gmost _ _).1) ((ky_gmost _ _).2) ?_
  exact W.vret hx hb hr (fun t ht hW => ⟨⟨_, (va_1, ky_cap mm (0 + ky_szJ a1), f_1, ml_0, fc_1), rfl, ⟨rfl, hm.cap, (hm.le (by omega)).1, hf_1, hc_1⟩, by rw [ht]; exact hP9, hD9, trivial⟩, hS.F ht⟩) hS.2.2 dc_X3_writeWhole_13
set_option linter.constructorNameAsVariable false in
set_option maxHeartbeats 4000000 in
set_option maxRecDepth 100000 in
theorem mt_X3_writeNumber (l : Launch) (G : ky_G) (sc : Nat) (fg : Nat) (fc : Nat → Int32) (b : Nat) (va : Nat) (mm : Nat) (n : Nat) (f : Nat → Int32) (ml : Int32) (a1 : Int64) (sz : Nat) (hm : ky_m2 mm) (hf : ky_fit f) (hch : ky_chs fc) (hn : n ≤ mm) : Met l my_X3_writeNumber (.code my_X3_writeNumber prog_5_method_7_code 3 none :: ky_B) { frames := 8, cells := 1, slots := 34, locals := 179 } (ky_P G [.ref sc, .long (a1)] (ky_WC G sc fg fc b va mm n f ml) sz (fun _ => True)) (ky_Q (S := Nat × Nat × (Nat → Int32) × Int32 × (Nat → Int32)) G (va_A (ky_WC G sc fg fc b va mm n f ml) sz) (fun v u => v = none ∧ ky_m2 u.2.1 ∧ (ky_tl a1) ≤ u.2.1 ∧ ky_fit u.2.2.1 ∧ ky_chs u.2.2.2.2) (fun u => ky_WC G sc fg u.2.2.2.2 b u.1 u.2.1 (ky_tl a1) u.2.2.1 u.2.2.2.1) (fun _ _ => True)) (1) (34) (va_A (ky_WC G sc fg fc b va mm n f ml) sz) := by
  refine ky_start (by decide) (Nat.le_of_ble_eq_true rfl) (fun p e s m below meth c F hE A hAe hsz hA hfr hP hD hS hX ls hl => ?_)
  obtain ⟨hx, hb, hml, hown, hr, hlocks, hts⟩ := id F
  have hl : lv_has ls 3 [(0, .ref sc), (1, .long (a1))] := hl
  have hP : va_P G.1 kcl [(sc, .inr (1, [.ref b, .ref fg])), (fg, .inl (G.2.1 1, 19, .inl (fc))), (b, .inr (6, [.ref va, .int (0), .int (ml), .int (nI (n))])), (va, .inl (G.2.1 0, mm, .inl (f)))] s.heap := hP
  have hD : va_D A [(sc, .inr (1, [.ref b, .ref fg])), (fg, .inl (G.2.1 1, 19, .inl (fc))), (b, .inr (6, [.ref va, .int (0), .int (ml), .int (nI (n))])), (va, .inl (G.2.1 0, mm, .inl (f)))] := hD
  have hm34 : mm ≤ 34 := by have := (hm.le (Nat.zero_le 34)).2; omega
  have h39 := ky_tl3 a1
  refine lv_aload_n hx hb dc_X3_writeNumber_0 rfl (lv_at hl 0 rfl) ?_
  refine va_get (D := G.1) (ci := 1) (v := .ref b) (C := RX3) (T := TX3) (N := 2) hx hb hts ki_X3 hown hE.1 hP 0 rfl rfl 0 (by decide) (hts _ kw_1_78) (fun _ h9 => h9) rfl dc_X3_writeNumber_1 ?_
  refine lv_iconst (v := 0) hx hb dc_X3_writeNumber_4 (by decide) ?_
  refine ky_cVh (As := [.int ((0 : Int32))]) (wr := [(sc, .inr (1, [.ref b, .ref fg])), (fg, .inl (G.2.1 1, 19, .inl (fc)))]) F (hE.at hfr hS) hfr (mt_J4_setLength_d00df l G b va mm n f ml s.heap.size hm hf (by have := (hm.le (Nat.zero_le 34)).2; omega)) kv_X3_35 ⟨⟨rfl, rfl⟩, Nat.le_of_ble_eq_true rfl, Nat.le_of_ble_eq_true rfl⟩ rfl hl.1 rfl (Nat.le_of_ble_eq_true rfl) (ky_rc2) (va_recv hE.1 hP (ci := 6) (q0 := 2) rfl rfl) trivial hP hD hS hA [2, 3] [0, 1] rfl rfl (by decide) (by decide) (by decide) dc_X3_writeNumber_5 ?_
  rintro v9 ⟨va_0, f_0, ml_0⟩ H locs ⟨rfl, hf_0⟩ hP hD hS - hz hk9
  have hP : va_P G.1 kcl [(sc, .inr (1, [.ref b, .ref fg])), (fg, .inl (G.2.1 1, 19, .inl (fc))), (b, .inr (6, [.ref va_0, .int (0), .int (ml_0), .int (nI (0))])), (va_0, .inl (G.2.1 0, mm, .inl (f_0)))] H := hP
  have hD : va_D A [(sc, .inr (1, [.ref b, .ref fg])), (fg, .inl (G.2.1 1, 19, .inl (fc))), (b, .inr (6, [.ref va_0, .int (0), .int (ml_0), .int (nI (0))])), (va_0, .inl (G.2.1 0, mm, .inl (f_0)))] := hD
  refine W.widen (k := 0) (n := 0) (by rw [ky_gc0]; exact Nat.le_refl _) (by rw [ky_gs0]; exact Nat.le_refl _) ?_
  refine lv_lload_n hx hb dc_X3_writeNumber_8 rfl (lv_at hl 1 rfl) ?_
  refine ky_cS0 (As := [.long (a1)]) F (mt_X0_isDownOne l (a1)) ks_X3_42 ⟨⟨rfl, rfl⟩, by decide, by decide⟩ rfl hl.1 rfl (Nat.le_of_ble_eq_true rfl) ⟨by show (_ : Nat) ≤ 1; omega, by show (_ : Nat) ≤ 34; omega⟩ dc_X3_writeNumber_9 ?_
  refine lv_if_eq (tgt := 25) hx hb dc_X3_writeNumber_12 (by decide) (fun c_1 => ?_) (fun c_1 => ?_)
  · skip
    refine lv_lload_n hx hb dc_X3_writeNumber_25 rfl (lv_at hl 1 rfl) ?_
    refine ky_cS0 (As := [.long (a1)]) F (mt_X0_sizeIn l (a1)) ks_X3_52 ⟨⟨rfl, rfl⟩, by decide, by decide⟩ rfl hl.1 rfl (Nat.le_of_ble_eq_true rfl) ⟨by show (_ : Nat) ≤ 1; omega, by show (_ : Nat) ≤ 34; omega⟩ dc_X3_writeNumber_26 ?_
    refine lv_lconst (v := 0) hx hb dc_X3_writeNumber_29 (by decide) ?_
    refine W.lcmp hx hb dc_X3_writeNumber_30 ?_
    refine lv_if_ne (tgt := 47) hx hb dc_X3_writeNumber_31 (by decide) (fun c_2 => ?_) (fun c_2 => ?_)
    · skip
      refine lv_lload_n hx hb dc_X3_writeNumber_47 rfl (lv_at hl 1 rfl) ?_
      refine ky_cS0 (As := [.long (a1)]) F (mt_X0_isEndlessOne l (a1)) ks_X3_56 ⟨⟨rfl, rfl⟩, by decide, by decide⟩ rfl hl.1 rfl (Nat.le_of_ble_eq_true rfl) ⟨by show (_ : Nat) ≤ 1; omega, by show (_ : Nat) ≤ 34; omega⟩ dc_X3_writeNumber_48 ?_
      refine lv_if_eq (tgt := 67) hx hb dc_X3_writeNumber_51 (by decide) (fun c_3 => ?_) (fun c_3 => ?_)
      · skip
        refine lv_aload_n hx hb dc_X3_writeNumber_67 rfl (lv_at hl 0 rfl) ?_
        refine lv_lload_n hx hb dc_X3_writeNumber_68 rfl (lv_at hl 1 rfl) ?_
        refine ky_cS0 (As := [.long (a1)]) F (mt_X0_factorIn l (a1)) ks_X3_59 ⟨⟨rfl, rfl⟩, by decide, by decide⟩ rfl hl.1 rfl (Nat.le_of_ble_eq_true rfl) ⟨by show (_ : Nat) ≤ 1; omega, by show (_ : Nat) ≤ 34; omega⟩ dc_X3_writeNumber_69 ?_
        refine lv_lload_n hx hb dc_X3_writeNumber_72 rfl (lv_at hl 1 rfl) ?_
        refine ky_cS0 (As := [.long (a1)]) F (mt_X0_powerIn l (a1)) ks_X3_62 ⟨⟨rfl, rfl⟩, by decide, by decide⟩ rfl hl.1 rfl (Nat.le_of_ble_eq_true rfl) ⟨by show (_ : Nat) ≤ 1; omega, by show (_ : Nat) ≤ 34; omega⟩ dc_X3_writeNumber_73 ?_
        refine ky_cVh (As := [.long (fn_X0_factorIn (a1)), .int (fn_X0_powerIn (a1))]) (wr := []) F (hE.at hfr hS) hfr (mt_X3_appendSize l G sc fg fc b va_0 mm 0 f_0 ml_0 (fn_X0_factorIn (a1)) (fn_X0_powerIn (a1)) H.size hm hf_0 hch (Nat.zero_le _) (by omega)) kv_X3_66 ⟨⟨rfl, rfl⟩, Nat.le_of_ble_eq_true rfl, Nat.le_of_ble_eq_true rfl⟩ rfl hl.1 rfl (Nat.le_of_ble_eq_true rfl) (ky_rc2) (va_recv hE.1 hP (ci := 1) (q0 := 0) rfl rfl) trivial hP hD hS hA [0, 1, 2, 3] [] rfl rfl (by decide) (by decide) (by decide) dc_X3_writeNumber_76 ?_
        rintro v9 ⟨va_4, f_4, fc_4⟩ H locs ⟨rfl, hf_4, hc_4⟩ hP hD hS - hz hk9
        have hP : va_P G.1 kcl [(sc, .inr (1, [.ref b, .ref fg])), (fg, .inl (G.2.1 1, 19, .inl (fc_4))), (b, .inr (6, [.ref va_4, .int (0), .int (ml_0), .int (nI (0 + ky_szJ (ky_od 7 (fn_X0_factorIn (a1)) (fn_X0_powerIn (a1))).1 + 3 + ky_szI (ky_od 7 (fn_X0_factorIn (a1)) (fn_X0_powerIn (a1))).2))])), (va_4, .inl (G.2.1 0, ky_cap mm (0 + ky_szJ (ky_od 7 (fn_X0_factorIn (a1)) (fn_X0_powerIn (a1))).1 + 3 + ky_szI (ky_od 7 (fn_X0_factorIn (a1)) (fn_X0_powerIn (a1))).2), .inl (f_4)))] H := hP
        have hD : va_D A [(sc, .inr (1, [.ref b, .ref fg])), (fg, .inl (G.2.1 1, 19, .inl (fc_4))), (b, .inr (6, [.ref va_4, .int (0), .int (ml_0), .int (nI (0 + ky_szJ (ky_od 7 (fn_X0_factorIn (a1)) (fn_X0_powerIn (a1))).1 + 3 + ky_szI (ky_od 7 (fn_X0_factorIn (a1)) (fn_X0_powerIn (a1))).2))])), (va_4, .inl (G.2.1 0, ky_cap mm (0 + ky_szJ (ky_od 7 (fn_X0_factorIn (a1)) (fn_X0_powerIn (a1))).1 + 3 + ky_szI (ky_od 7 (fn_X0_factorIn (a1)) (fn_X0_powerIn (a1))).2), .inl (f_4)))] := hD
        refine W.widen (k := (ky_gc mm (0 + ky_szJ (ky_od 7 (fn_X0_factorIn (a1)) (fn_X0_powerIn (a1))).1 + 3 + ky_szI (ky_od 7 (fn_X0_factorIn (a1)) (fn_X0_powerIn (a1))).2))) (n := (ky_gs mm (0 + ky_szJ (ky_od 7 (fn_X0_factorIn (a1)) (fn_X0_powerIn (a1))).1 + 3 + ky_szI (ky_od 7 (fn_X0_factorIn (a1)) (fn_X0_powerIn (a1))).2))) (by first | exact Nat.le_refl _ | omega) (by first | exact Nat.le_refl _ | omega) ?_
        have e9 : ky_tl a1 = 0 + ky_szJ (ky_od 7 (fn_X0_factorIn (a1)) (fn_X0_powerIn (a1))).1 + 3 + ky_szI (ky_od 7 (fn_X0_factorIn (a1)) (fn_X0_powerIn (a1))).2 := by unfold ky_tl; rw [if_pos c_1, if_neg c_2, if_pos c_3]; try omega
        rw [show ([(sc, .inr (1, [.ref b, .ref fg])), (fg, .inl (G.2.1 1, 19, .inl (fc_4))), (b, .inr (6, [.ref va_4, .int (0), .int (ml_0), .int (nI (0 + ky_szJ (ky_od 7 (fn_X0_factorIn (a1)) (fn_X0_powerIn (a1))).1 + 3 + ky_szI (ky_od 7 (fn_X0_factorIn (a1)) (fn_X0_powerIn (a1))).2))])), (va_4, .inl (G.2.1 0, ky_cap mm (0 + ky_szJ (ky_od 7 (fn_X0_factorIn (a1)) (fn_X0_powerIn (a1))).1 + 3 + ky_szI (ky_od 7 (fn_X0_factorIn (a1)) (fn_X0_powerIn (a1))).2), .inl (f_4)))] : va_W) = [(sc, .inr (1, [.ref b, .ref fg])), (fg, .inl (G.2.1 1, 19, .inl (fc_4))), (b, .inr (6, [.ref va_4, .int (0), .int (ml_0), .int (nI (ky_tl a1))])), (va_4, .inl (G.2.1 0, ky_cap mm (ky_tl a1), .inl (f_4)))] by rw [e9]] at hP hD
        have htl := ky_tl_le a1
        have hP9 := hP.sub (ws' := [(sc, .inr (1, [.ref b, .ref fg])), (fg, .inl (G.2.1 1, 19, .inl (fc_4))), (b, .inr (6, [.ref va_4, .int (0), .int (ml_0), .int (nI (ky_tl a1))])), (va_4, .inl (G.2.1 0, ky_cap mm (ky_tl a1), .inl (f_4)))]) [0, 1, 2, 3] rfl
        have hD9 := hD.sub (ws' := [(sc, .inr (1, [.ref b, .ref fg])), (fg, .inl (G.2.1 1, 19, .inl (fc_4))), (b, .inr (6, [.ref va_4, .int (0), .int (ml_0), .int (nI (ky_tl a1))])), (va_4, .inl (G.2.1 0, ky_cap mm (ky_tl a1), .inl (f_4)))]) [0, 1, 2, 3] (by decide) rfl
        refine W.widen (k := 1) (n := 34) ((ky_gmost _ _).1) ((ky_gmost _ _).2) ?_
        exact W.vret hx hb hr (fun t ht hW => ⟨⟨_, (va_4, ky_cap mm (ky_tl a1), f_4, ml_0, fc_4), rfl, ⟨rfl, hm.cap, (hm.le (by omega)).1, hf_4, hc_4⟩, by rw [ht]; exact hP9, hD9, trivial⟩, hS.F ht⟩) hS.2.2 dc_X3_writeNumber_79
      · skip
        refine lv_aload_n hx hb dc_X3_writeNumber_54 rfl (lv_at hl 0 rfl) ?_
        refine va_get (D := G.1) (ci := 1) (v := .ref b) (C := RX3) (T := TX3) (N := 2) hx hb hts ki_X3 hown hE.1 hP 0 rfl rfl 0 (by decide) (hts _ kw_1_78) (fun _ h9 => h9) rfl dc_X3_writeNumber_55 ?_
        refine lv_bipush (v := 69) hx hb dc_X3_writeNumber_58 (by decide) ?_
        refine ky_cVh (As := [.int ((69 : Int32))]) (wr := [(sc, .inr (1, [.ref b, .ref fg])), (fg, .inl (G.2.1 1, 19, .inl (fc)))]) F (hE.at hfr hS) hfr (mt_J4_append_cf468 l G b va_0 mm 0 f_0 ml_0 (69 : Int32) H.size hm hf_0 (by decide) (by omega)) kv_X3_48 ⟨⟨rfl, rfl⟩, Nat.le_of_ble_eq_true rfl, Nat.le_of_ble_eq_true rfl⟩ rfl hl.1 rfl (Nat.le_of_ble_eq_true rfl) (ky_rc2) (va_recv hE.1 hP (ci := 6) (q0 := 2) rfl rfl) trivial hP hD hS hA [2, 3] [0, 1] rfl rfl (by decide) (by decide) (by decide) dc_X3_writeNumber_60 ?_
        rintro v9 ⟨va_4, f_4⟩ H locs ⟨rfl, hf_4⟩ hP hD hS - hz hk9
        have hP : va_P G.1 kcl [(sc, .inr (1, [.ref b, .ref fg])), (fg, .inl (G.2.1 1, 19, .inl (fc))), (b, .inr (6, [.ref va_4, .int (0), .int (ml_0), .int (nI (0 + 1))])), (va_4, .inl (G.2.1 0, ky_cap mm (0 + 1), .inl (f_4)))] H := hP
        have hD : va_D A [(sc, .inr (1, [.ref b, .ref fg])), (fg, .inl (G.2.1 1, 19, .inl (fc))), (b, .inr (6, [.ref va_4, .int (0), .int (ml_0), .int (nI (0 + 1))])), (va_4, .inl (G.2.1 0, ky_cap mm (0 + 1), .inl (f_4)))] := hD
        refine W.widen (k := (ky_gc mm (0 + 1))) (n := (ky_gs mm (0 + 1))) (by first | exact Nat.le_refl _ | omega) (by first | exact Nat.le_refl _ | omega) ?_
        refine lv_pop hx hb dc_X3_writeNumber_63 rfl ?_
        refine lv_goto (tgt := 79) hx hb dc_X3_writeNumber_64 (by decide) ?_
        have e9 : ky_tl a1 = 0 + 1 := by unfold ky_tl; rw [if_pos c_1, if_neg c_2, if_neg c_3]; try omega
        rw [show ([(sc, .inr (1, [.ref b, .ref fg])), (fg, .inl (G.2.1 1, 19, .inl (fc))), (b, .inr (6, [.ref va_4, .int (0), .int (ml_0), .int (nI (0 + 1))])), (va_4, .inl (G.2.1 0, ky_cap mm (0 + 1), .inl (f_4)))] : va_W) = [(sc, .inr (1, [.ref b, .ref fg])), (fg, .inl (G.2.1 1, 19, .inl (fc))), (b, .inr (6, [.ref va_4, .int (0), .int (ml_0), .int (nI (ky_tl a1))])), (va_4, .inl (G.2.1 0, ky_cap mm (ky_tl a1), .inl (f_4)))] by rw [e9]] at hP hD
        have htl := ky_tl_le a1
        have hP9 := hP.sub (ws' := [(sc, .inr (1, [.ref b, .ref fg])), (fg, .inl (G.2.1 1, 19, .inl (fc))), (b, .inr (6, [.ref va_4, .int (0), .int (ml_0), .int (nI (ky_tl a1))])), (va_4, .inl (G.2.1 0, ky_cap mm (ky_tl a1), .inl (f_4)))]) [0, 1, 2, 3] rfl
        have hD9 := hD.sub (ws' := [(sc, .inr (1, [.ref b, .ref fg])), (fg, .inl (G.2.1 1, 19, .inl (fc))), (b, .inr (6, [.ref va_4, .int (0), .int (ml_0), .int (nI (ky_tl a1))])), (va_4, .inl (G.2.1 0, ky_cap mm (ky_tl a1), .inl (f_4)))]) [0, 1, 2, 3] (by decide) rfl
        refine W.widen (k := 1) (n := 34) ((ky_gmost _ _).1) ((ky_gmost _ _).2) ?_
        exact W.vret hx hb hr (fun t ht hW => ⟨⟨_, (va_4, ky_cap mm (ky_tl a1), f_4, ml_0, fc), rfl, ⟨rfl, hm.cap, (hm.le (by omega)).1, hf_4, hch⟩, by rw [ht]; exact hP9, hD9, trivial⟩, hS.F ht⟩) hS.2.2 dc_X3_writeNumber_79
    · skip
      refine lv_aload_n hx hb dc_X3_writeNumber_34 rfl (lv_at hl 0 rfl) ?_
      refine va_get (D := G.1) (ci := 1) (v := .ref b) (C := RX3) (T := TX3) (N := 2) hx hb hts ki_X3 hown hE.1 hP 0 rfl rfl 0 (by decide) (hts _ kw_1_78) (fun _ h9 => h9) rfl dc_X3_writeNumber_35 ?_
      refine lv_bipush (v := 48) hx hb dc_X3_writeNumber_38 (by decide) ?_
      refine ky_cVh (As := [.int ((48 : Int32))]) (wr := [(sc, .inr (1, [.ref b, .ref fg])), (fg, .inl (G.2.1 1, 19, .inl (fc)))]) F (hE.at hfr hS) hfr (mt_J4_append_cf468 l G b va_0 mm 0 f_0 ml_0 (48 : Int32) H.size hm hf_0 (by decide) (by omega)) kv_X3_48 ⟨⟨rfl, rfl⟩, Nat.le_of_ble_eq_true rfl, Nat.le_of_ble_eq_true rfl⟩ rfl hl.1 rfl (Nat.le_of_ble_eq_true rfl) (ky_rc2) (va_recv hE.1 hP (ci := 6) (q0 := 2) rfl rfl) trivial hP hD hS hA [2, 3] [0, 1] rfl rfl (by decide) (by decide) (by decide) dc_X3_writeNumber_40 ?_
      rintro v9 ⟨va_3, f_3⟩ H locs ⟨rfl, hf_3⟩ hP hD hS - hz hk9
      have hP : va_P G.1 kcl [(sc, .inr (1, [.ref b, .ref fg])), (fg, .inl (G.2.1 1, 19, .inl (fc))), (b, .inr (6, [.ref va_3, .int (0), .int (ml_0), .int (nI (0 + 1))])), (va_3, .inl (G.2.1 0, ky_cap mm (0 + 1), .inl (f_3)))] H := hP
      have hD : va_D A [(sc, .inr (1, [.ref b, .ref fg])), (fg, .inl (G.2.1 1, 19, .inl (fc))), (b, .inr (6, [.ref va_3, .int (0), .int (ml_0), .int (nI (0 + 1))])), (va_3, .inl (G.2.1 0, ky_cap mm (0 + 1), .inl (f_3)))] := hD
      refine W.widen (k := (ky_gc mm (0 + 1))) (n := (ky_gs mm (0 + 1))) (by first | exact Nat.le_refl _ | omega) (by first | exact Nat.le_refl _ | omega) ?_
      refine lv_pop hx hb dc_X3_writeNumber_43 rfl ?_
      refine lv_goto (tgt := 79) hx hb dc_X3_writeNumber_44 (by decide) ?_
      have e9 : ky_tl a1 = 0 + 1 := by unfold ky_tl; rw [if_pos c_1, if_pos c_2]; try omega
      rw [show ([(sc, .inr (1, [.ref b, .ref fg])), (fg, .inl (G.2.1 1, 19, .inl (fc))), (b, .inr (6, [.ref va_3, .int (0), .int (ml_0), .int (nI (0 + 1))])), (va_3, .inl (G.2.1 0, ky_cap mm (0 + 1), .inl (f_3)))] : va_W) = [(sc, .inr (1, [.ref b, .ref fg])), (fg, .inl (G.2.1 1, 19, .inl (fc))), (b, .inr (6, [.ref va_3, .int (0), .int (ml_0), .int (nI (ky_tl a1))])), (va_3, .inl (G.2.1 0, ky_cap mm (ky_tl a1), .inl (f_3)))] by rw [e9]] at hP hD
      have htl := ky_tl_le a1
      have hP9 := hP.sub (ws' := [(sc, .inr (1, [.ref b, .ref fg])), (fg, .inl (G.2.1 1, 19, .inl (fc))), (b, .inr (6, [.ref va_3, .int (0), .int (ml_0), .int (nI (ky_tl a1))])), (va_3, .inl (G.2.1 0, ky_cap mm (ky_tl a1), .inl (f_3)))]) [0, 1, 2, 3] rfl
      have hD9 := hD.sub (ws' := [(sc, .inr (1, [.ref b, .ref fg])), (fg, .inl (G.2.1 1, 19, .inl (fc))), (b, .inr (6, [.ref va_3, .int (0), .int (ml_0), .int (nI (ky_tl a1))])), (va_3, .inl (G.2.1 0, ky_cap mm (ky_tl a1), .inl (f_3)))]) [0, 1, 2, 3] (by decide) rfl
      refine W.widen (k := 1) (n := 34) ((ky_gmost _ _).1) ((ky_gmost _ _).2) ?_
      exact W.vret hx hb hr (fun t ht hW => ⟨⟨_, (va_3, ky_cap mm (ky_tl a1), f_3, ml_0, fc), rfl, ⟨rfl, hm.cap, (hm.le (by omega)).1, hf_3, hch⟩, by rw [ht]; exact hP9, hD9, trivial⟩, hS.F ht⟩) hS.2.2 dc_X3_writeNumber_79
  · skip
    refine lv_aload_n hx hb dc_X3_writeNumber_15 rfl (lv_at hl 0 rfl) ?_
    refine va_get (D := G.1) (ci := 1) (v := .ref b) (C := RX3) (T := TX3) (N := 2) hx hb hts ki_X3 hown hE.1 hP 0 rfl rfl 0 (by decide) (hts _ kw_1_78) (fun _ h9 => h9) rfl dc_X3_writeNumber_16 ?_
    refine lv_bipush (v := 45) hx hb dc_X3_writeNumber_19 (by decide) ?_
    refine ky_cVh (As := [.int ((45 : Int32))]) (wr := [(sc, .inr (1, [.ref b, .ref fg])), (fg, .inl (G.2.1 1, 19, .inl (fc)))]) F (hE.at hfr hS) hfr (mt_J4_append_cf468 l G b va_0 mm 0 f_0 ml_0 (45 : Int32) H.size hm hf_0 (by decide) (by omega)) kv_X3_48 ⟨⟨rfl, rfl⟩, Nat.le_of_ble_eq_true rfl, Nat.le_of_ble_eq_true rfl⟩ rfl hl.1 rfl (Nat.le_of_ble_eq_true rfl) (ky_rc2) (va_recv hE.1 hP (ci := 6) (q0 := 2) rfl rfl) trivial hP hD hS hA [2, 3] [0, 1] rfl rfl (by decide) (by decide) (by decide) dc_X3_writeNumber_21 ?_
    rintro v9 ⟨va_2, f_2⟩ H locs ⟨rfl, hf_2⟩ hP hD hS - hz hk9
    have hP : va_P G.1 kcl [(sc, .inr (1, [.ref b, .ref fg])), (fg, .inl (G.2.1 1, 19, .inl (fc))), (b, .inr (6, [.ref va_2, .int (0), .int (ml_0), .int (nI (0 + 1))])), (va_2, .inl (G.2.1 0, ky_cap mm (0 + 1), .inl (f_2)))] H := hP
    have hD : va_D A [(sc, .inr (1, [.ref b, .ref fg])), (fg, .inl (G.2.1 1, 19, .inl (fc))), (b, .inr (6, [.ref va_2, .int (0), .int (ml_0), .int (nI (0 + 1))])), (va_2, .inl (G.2.1 0, ky_cap mm (0 + 1), .inl (f_2)))] := hD
    refine W.widen (k := (ky_gc mm (0 + 1))) (n := (ky_gs mm (0 + 1))) (by first | exact Nat.le_refl _ | omega) (by first | exact Nat.le_refl _ | omega) ?_
    refine lv_pop hx hb dc_X3_writeNumber_24 rfl ?_
    refine lv_lload_n hx hb dc_X3_writeNumber_25 rfl (lv_at hl 1 rfl) ?_
    refine ky_cS0 (As := [.long (a1)]) F (mt_X0_sizeIn l (a1)) ks_X3_52 ⟨⟨rfl, rfl⟩, by decide, by decide⟩ rfl hl.1 rfl (Nat.le_of_ble_eq_true rfl) (ky_gmost _ _) dc_X3_writeNumber_26 ?_
    refine lv_lconst (v := 0) hx hb dc_X3_writeNumber_29 (by decide) ?_
    refine W.lcmp hx hb dc_X3_writeNumber_30 ?_
    refine lv_if_ne (tgt := 47) hx hb dc_X3_writeNumber_31 (by decide) (fun c_3 => ?_) (fun c_3 => ?_)
    · skip
      refine lv_lload_n hx hb dc_X3_writeNumber_47 rfl (lv_at hl 1 rfl) ?_
      refine ky_cS0 (As := [.long (a1)]) F (mt_X0_isEndlessOne l (a1)) ks_X3_56 ⟨⟨rfl, rfl⟩, by decide, by decide⟩ rfl hl.1 rfl (Nat.le_of_ble_eq_true rfl) (ky_gmost _ _) dc_X3_writeNumber_48 ?_
      refine lv_if_eq (tgt := 67) hx hb dc_X3_writeNumber_51 (by decide) (fun c_4 => ?_) (fun c_4 => ?_)
      · skip
        refine lv_aload_n hx hb dc_X3_writeNumber_67 rfl (lv_at hl 0 rfl) ?_
        refine lv_lload_n hx hb dc_X3_writeNumber_68 rfl (lv_at hl 1 rfl) ?_
        refine ky_cS0 (As := [.long (a1)]) F (mt_X0_factorIn l (a1)) ks_X3_59 ⟨⟨rfl, rfl⟩, by decide, by decide⟩ rfl hl.1 rfl (Nat.le_of_ble_eq_true rfl) (ky_gmost _ _) dc_X3_writeNumber_69 ?_
        refine lv_lload_n hx hb dc_X3_writeNumber_72 rfl (lv_at hl 1 rfl) ?_
        refine ky_cS0 (As := [.long (a1)]) F (mt_X0_powerIn l (a1)) ks_X3_62 ⟨⟨rfl, rfl⟩, by decide, by decide⟩ rfl hl.1 rfl (Nat.le_of_ble_eq_true rfl) (ky_gmost _ _) dc_X3_writeNumber_73 ?_
        refine ky_cVh (As := [.long (fn_X0_factorIn (a1)), .int (fn_X0_powerIn (a1))]) (wr := []) F (hE.at hfr hS) hfr (mt_X3_appendSize l G sc fg fc b va_2 (ky_cap mm (0 + 1)) (0 + 1) f_2 ml_0 (fn_X0_factorIn (a1)) (fn_X0_powerIn (a1)) H.size hm.cap hf_2 hch (hm.le (by omega)).1 (by omega)) kv_X3_66 ⟨⟨rfl, rfl⟩, Nat.le_of_ble_eq_true rfl, Nat.le_of_ble_eq_true rfl⟩ rfl hl.1 rfl (Nat.le_of_ble_eq_true rfl) (ky_rc1 hm (by omega) (by omega)) (va_recv hE.1 hP (ci := 1) (q0 := 0) rfl rfl) trivial hP hD hS hA [0, 1, 2, 3] [] rfl rfl (by decide) (by decide) (by decide) dc_X3_writeNumber_76 ?_
        rintro v9 ⟨va_5, f_5, fc_5⟩ H locs ⟨rfl, hf_5, hc_5⟩ hP hD hS - hz hk9
        rw [show ky_cap (ky_cap mm (0 + 1)) (0 + 1 + ky_szJ (ky_od 7 (fn_X0_factorIn (a1)) (fn_X0_powerIn (a1))).1 + 3 + ky_szI (ky_od 7 (fn_X0_factorIn (a1)) (fn_X0_powerIn (a1))).2) = ky_cap mm (0 + 1 + ky_szJ (ky_od 7 (fn_X0_factorIn (a1)) (fn_X0_powerIn (a1))).1 + 3 + ky_szI (ky_od 7 (fn_X0_factorIn (a1)) (fn_X0_powerIn (a1))).2) from ky_capc hm (by omega) (by omega)] at hP hD
        have hP : va_P G.1 kcl [(sc, .inr (1, [.ref b, .ref fg])), (fg, .inl (G.2.1 1, 19, .inl (fc_5))), (b, .inr (6, [.ref va_5, .int (0), .int (ml_0), .int (nI (0 + 1 + ky_szJ (ky_od 7 (fn_X0_factorIn (a1)) (fn_X0_powerIn (a1))).1 + 3 + ky_szI (ky_od 7 (fn_X0_factorIn (a1)) (fn_X0_powerIn (a1))).2))])), (va_5, .inl (G.2.1 0, ky_cap mm (0 + 1 + ky_szJ (ky_od 7 (fn_X0_factorIn (a1)) (fn_X0_powerIn (a1))).1 + 3 + ky_szI (ky_od 7 (fn_X0_factorIn (a1)) (fn_X0_powerIn (a1))).2), .inl (f_5)))] H := hP
        have hD : va_D A [(sc, .inr (1, [.ref b, .ref fg])), (fg, .inl (G.2.1 1, 19, .inl (fc_5))), (b, .inr (6, [.ref va_5, .int (0), .int (ml_0), .int (nI (0 + 1 + ky_szJ (ky_od 7 (fn_X0_factorIn (a1)) (fn_X0_powerIn (a1))).1 + 3 + ky_szI (ky_od 7 (fn_X0_factorIn (a1)) (fn_X0_powerIn (a1))).2))])), (va_5, .inl (G.2.1 0, ky_cap mm (0 + 1 + ky_szJ (ky_od 7 (fn_X0_factorIn (a1)) (fn_X0_powerIn (a1))).1 + 3 + ky_szI (ky_od 7 (fn_X0_factorIn (a1)) (fn_X0_powerIn (a1))).2), .inl (f_5)))] := hD
        refine W.widen (k := ky_gc mm (0 + 1 + ky_szJ (ky_od 7 (fn_X0_factorIn (a1)) (fn_X0_powerIn (a1))).1 + 3 + ky_szI (ky_od 7 (fn_X0_factorIn (a1)) (fn_X0_powerIn (a1))).2)) (n := ky_gs mm (0 + 1 + ky_szJ (ky_od 7 (fn_X0_factorIn (a1)) (fn_X0_powerIn (a1))).1 + 3 + ky_szI (ky_od 7 (fn_X0_factorIn (a1)) (fn_X0_powerIn (a1))).2)) (by rw [ky_gcc hm (by omega) (by omega)]; exact Nat.le_refl _) (by rw [ky_gsc hm (by omega) (by omega)]; exact Nat.le_refl _) ?_
        have e9 : ky_tl a1 = 0 + 1 + ky_szJ (ky_od 7 (fn_X0_factorIn (a1)) (fn_X0_powerIn (a1))).1 + 3 + ky_szI (ky_od 7 (fn_X0_factorIn (a1)) (fn_X0_powerIn (a1))).2 := by unfold ky_tl; rw [if_neg c_1, if_neg c_3, if_pos c_4]; try omega
        rw [show ([(sc, .inr (1, [.ref b, .ref fg])), (fg, .inl (G.2.1 1, 19, .inl (fc_5))), (b, .inr (6, [.ref va_5, .int (0), .int (ml_0), .int (nI (0 + 1 + ky_szJ (ky_od 7 (fn_X0_factorIn (a1)) (fn_X0_powerIn (a1))).1 + 3 + ky_szI (ky_od 7 (fn_X0_factorIn (a1)) (fn_X0_powerIn (a1))).2))])), (va_5, .inl (G.2.1 0, ky_cap mm (0 + 1 + ky_szJ (ky_od 7 (fn_X0_factorIn (a1)) (fn_X0_powerIn (a1))).1 + 3 + ky_szI (ky_od 7 (fn_X0_factorIn (a1)) (fn_X0_powerIn (a1))).2), .inl (f_5)))] : va_W) = [(sc, .inr (1, [.ref b, .ref fg])), (fg, .inl (G.2.1 1, 19, .inl (fc_5))), (b, .inr (6, [.ref va_5, .int (0), .int (ml_0), .int (nI (ky_tl a1))])), (va_5, .inl (G.2.1 0, ky_cap mm (ky_tl a1), .inl (f_5)))] by rw [e9]] at hP hD
        have htl := ky_tl_le a1
        have hP9 := hP.sub (ws' := [(sc, .inr (1, [.ref b, .ref fg])), (fg, .inl (G.2.1 1, 19, .inl (fc_5))), (b, .inr (6, [.ref va_5, .int (0), .int (ml_0), .int (nI (ky_tl a1))])), (va_5, .inl (G.2.1 0, ky_cap mm (ky_tl a1), .inl (f_5)))]) [0, 1, 2, 3] rfl
        have hD9 := hD.sub (ws' := [(sc, .inr (1, [.ref b, .ref fg])), (fg, .inl (G.2.1 1, 19, .inl (fc_5))), (b, .inr (6, [.ref va_5, .int (0), .int (ml_0), .int (nI (ky_tl a1))])), (va_5, .inl (G.2.1 0, ky_cap mm (ky_tl a1), .inl (f_5)))]) [0, 1, 2, 3] (by decide) rfl
        refine W.widen (k := 1) (n := 34) ((ky_gmost _ _).1) ((ky_gmost _ _).2) ?_
        exact W.vret hx hb hr (fun t ht hW => ⟨⟨_, (va_5, ky_cap mm (ky_tl a1), f_5, ml_0, fc_5), rfl, ⟨rfl, hm.cap, (hm.le (by omega)).1, hf_5, hc_5⟩, by rw [ht]; exact hP9, hD9, trivial⟩, hS.F ht⟩) hS.2.2 dc_X3_writeNumber_79
      · skip
        refine lv_aload_n hx hb dc_X3_writeNumber_54 rfl (lv_at hl 0 rfl) ?_
        refine va_get (D := G.1) (ci := 1) (v := .ref b) (C := RX3) (T := TX3) (N := 2) hx hb hts ki_X3 hown hE.1 hP 0 rfl rfl 0 (by decide) (hts _ kw_1_78) (fun _ h9 => h9) rfl dc_X3_writeNumber_55 ?_
        refine lv_bipush (v := 69) hx hb dc_X3_writeNumber_58 (by decide) ?_
        refine ky_cVh (As := [.int ((69 : Int32))]) (wr := [(sc, .inr (1, [.ref b, .ref fg])), (fg, .inl (G.2.1 1, 19, .inl (fc)))]) F (hE.at hfr hS) hfr (mt_J4_append_cf468 l G b va_2 (ky_cap mm (0 + 1)) (0 + 1) f_2 ml_0 (69 : Int32) H.size hm.cap hf_2 (by decide) (by omega)) kv_X3_48 ⟨⟨rfl, rfl⟩, Nat.le_of_ble_eq_true rfl, Nat.le_of_ble_eq_true rfl⟩ rfl hl.1 rfl (Nat.le_of_ble_eq_true rfl) (ky_rc1 hm (by omega) (by omega)) (va_recv hE.1 hP (ci := 6) (q0 := 2) rfl rfl) trivial hP hD hS hA [2, 3] [0, 1] rfl rfl (by decide) (by decide) (by decide) dc_X3_writeNumber_60 ?_
        rintro v9 ⟨va_5, f_5⟩ H locs ⟨rfl, hf_5⟩ hP hD hS - hz hk9
        rw [show ky_cap (ky_cap mm (0 + 1)) (0 + 1 + 1) = ky_cap mm (0 + 1 + 1) from ky_capc hm (by omega) (by omega)] at hP hD
        have hP : va_P G.1 kcl [(sc, .inr (1, [.ref b, .ref fg])), (fg, .inl (G.2.1 1, 19, .inl (fc))), (b, .inr (6, [.ref va_5, .int (0), .int (ml_0), .int (nI (0 + 1 + 1))])), (va_5, .inl (G.2.1 0, ky_cap mm (0 + 1 + 1), .inl (f_5)))] H := hP
        have hD : va_D A [(sc, .inr (1, [.ref b, .ref fg])), (fg, .inl (G.2.1 1, 19, .inl (fc))), (b, .inr (6, [.ref va_5, .int (0), .int (ml_0), .int (nI (0 + 1 + 1))])), (va_5, .inl (G.2.1 0, ky_cap mm (0 + 1 + 1), .inl (f_5)))] := hD
        refine W.widen (k := ky_gc mm (0 + 1 + 1)) (n := ky_gs mm (0 + 1 + 1)) (by rw [ky_gcc hm (by omega) (by omega)]; exact Nat.le_refl _) (by rw [ky_gsc hm (by omega) (by omega)]; exact Nat.le_refl _) ?_
        refine lv_pop hx hb dc_X3_writeNumber_63 rfl ?_
        refine lv_goto (tgt := 79) hx hb dc_X3_writeNumber_64 (by decide) ?_
        have e9 : ky_tl a1 = 0 + 1 + 1 := by unfold ky_tl; rw [if_neg c_1, if_neg c_3, if_neg c_4]; try omega
        rw [show ([(sc, .inr (1, [.ref b, .ref fg])), (fg, .inl (G.2.1 1, 19, .inl (fc))), (b, .inr (6, [.ref va_5, .int (0), .int (ml_0), .int (nI (0 + 1 + 1))])), (va_5, .inl (G.2.1 0, ky_cap mm (0 + 1 + 1), .inl (f_5)))] : va_W) = [(sc, .inr (1, [.ref b, .ref fg])), (fg, .inl (G.2.1 1, 19, .inl (fc))), (b, .inr (6, [.ref va_5, .int (0), .int (ml_0), .int (nI (ky_tl a1))])), (va_5, .inl (G.2.1 0, ky_cap mm (ky_tl a1), .inl (f_5)))] by rw [e9]] at hP hD
        have htl := ky_tl_le a1
        have hP9 := hP.sub (ws' := [(sc, .inr (1, [.ref b, .ref fg])), (fg, .inl (G.2.1 1, 19, .inl (fc))), (b, .inr (6, [.ref va_5, .int (0), .int (ml_0), .int (nI (ky_tl a1))])), (va_5, .inl (G.2.1 0, ky_cap mm (ky_tl a1), .inl (f_5)))]) [0, 1, 2, 3] rfl
        have hD9 := hD.sub (ws' := [(sc, .inr (1, [.ref b, .ref fg])), (fg, .inl (G.2.1 1, 19, .inl (fc))), (b, .inr (6, [.ref va_5, .int (0), .int (ml_0), .int (nI (ky_tl a1))])), (va_5, .inl (G.2.1 0, ky_cap mm (ky_tl a1), .inl (f_5)))]) [0, 1, 2, 3] (by decide) rfl
        refine W.widen (k := 1) (n := 34) ((ky_gmost _ _).1) ((ky_gmost _ _).2) ?_
        exact W.vret hx hb hr (fun t ht hW => ⟨⟨_, (va_5, ky_cap mm (ky_tl a1), f_5, ml_0, fc), rfl, ⟨rfl, hm.cap, (hm.le (by omega)).1, hf_5, hch⟩, by rw [ht]; exact hP9, hD9, trivial⟩, hS.F ht⟩) hS.2.2 dc_X3_writeNumber_79
    · skip
      refine lv_aload_n hx hb dc_X3_writeNumber_34 rfl (lv_at hl 0 rfl) ?_
      refine va_get (D := G.1) (ci := 1) (v := .ref b) (C := RX3) (T := TX3) (N := 2) hx hb hts ki_X3 hown hE.1 hP 0 rfl rfl 0 (by decide) (hts _ kw_1_78) (fun _ h9 => h9) rfl dc_X3_writeNumber_35 ?_
      refine lv_bipush (v := 48) hx hb dc_X3_writeNumber_38 (by decide) ?_
      refine ky_cVh (As := [.int ((48 : Int32))]) (wr := [(sc, .inr (1, [.ref b, .ref fg])), (fg, .inl (G.2.1 1, 19, .inl (fc)))]) F (hE.at hfr hS) hfr (mt_J4_append_cf468 l G b va_2 (ky_cap mm (0 + 1)) (0 + 1) f_2 ml_0 (48 : Int32) H.size hm.cap hf_2 (by decide) (by omega)) kv_X3_48 ⟨⟨rfl, rfl⟩, Nat.le_of_ble_eq_true rfl, Nat.le_of_ble_eq_true rfl⟩ rfl hl.1 rfl (Nat.le_of_ble_eq_true rfl) (ky_rc1 hm (by omega) (by omega)) (va_recv hE.1 hP (ci := 6) (q0 := 2) rfl rfl) trivial hP hD hS hA [2, 3] [0, 1] rfl rfl (by decide) (by decide) (by decide) dc_X3_writeNumber_40 ?_
      rintro v9 ⟨va_4, f_4⟩ H locs ⟨rfl, hf_4⟩ hP hD hS - hz hk9
      rw [show ky_cap (ky_cap mm (0 + 1)) (0 + 1 + 1) = ky_cap mm (0 + 1 + 1) from ky_capc hm (by omega) (by omega)] at hP hD
      have hP : va_P G.1 kcl [(sc, .inr (1, [.ref b, .ref fg])), (fg, .inl (G.2.1 1, 19, .inl (fc))), (b, .inr (6, [.ref va_4, .int (0), .int (ml_0), .int (nI (0 + 1 + 1))])), (va_4, .inl (G.2.1 0, ky_cap mm (0 + 1 + 1), .inl (f_4)))] H := hP
      have hD : va_D A [(sc, .inr (1, [.ref b, .ref fg])), (fg, .inl (G.2.1 1, 19, .inl (fc))), (b, .inr (6, [.ref va_4, .int (0), .int (ml_0), .int (nI (0 + 1 + 1))])), (va_4, .inl (G.2.1 0, ky_cap mm (0 + 1 + 1), .inl (f_4)))] := hD
      refine W.widen (k := ky_gc mm (0 + 1 + 1)) (n := ky_gs mm (0 + 1 + 1)) (by rw [ky_gcc hm (by omega) (by omega)]; exact Nat.le_refl _) (by rw [ky_gsc hm (by omega) (by omega)]; exact Nat.le_refl _) ?_
      refine lv_pop hx hb dc_X3_writeNumber_43 rfl ?_
      refine lv_goto (tgt := 79) hx hb dc_X3_writeNumber_44 (by decide) ?_
      have e9 : ky_tl a1 = 0 + 1 + 1 := by unfold ky_tl; rw [if_neg c_1, if_pos c_3]; try omega
      rw [show ([(sc, .inr (1, [.ref b, .ref fg])), (fg, .inl (G.2.1 1, 19, .inl (fc))), (b, .inr (6, [.ref va_4, .int (0), .int (ml_0), .int (nI (0 + 1 + 1))])), (va_4, .inl (G.2.1 0, ky_cap mm (0 + 1 + 1), .inl (f_4)))] : va_W) = [(sc, .inr (1, [.ref b, .ref fg])), (fg, .inl (G.2.1 1, 19, .inl (fc))), (b, .inr (6, [.ref va_4, .int (0), .int (ml_0), .int (nI (ky_tl a1))])), (va_4, .inl (G.2.1 0, ky_cap mm (ky_tl a1), .inl (f_4)))] by rw [e9]] at hP hD
      have htl := ky_tl_le a1
      have hP9 := hP.sub (ws' := [(sc, .inr (1, [.ref b, .ref fg])), (fg, .inl (G.2.1 1, 19, .inl (fc))), (b, .inr (6, [.ref va_4, .int (0), .int (ml_0), .int (nI (ky_tl a1))])), (va_4, .inl (G.2.1 0, ky_cap mm (ky_tl a1), .inl (f_4)))]) [0, 1, 2, 3] rfl
      have hD9 := hD.sub (ws' := [(sc, .inr (1, [.ref b, .ref fg])), (fg, .inl (G.2.1 1, 19, .inl (fc))), (b, .inr (6, [.ref va_4, .int (0), .int (ml_0), .int (nI (ky_tl a1))])), (va_4, .inl (G.2.1 0, ky_cap mm (ky_tl a1), .inl (f_4)))]) [0, 1, 2, 3] (by decide) rfl
      refine W.widen (k := 1) (n := 34) ((ky_gmost _ _).1) ((ky_gmost _ _).2) ?_
      exact W.vret hx hb hr (fun t ht hW => ⟨⟨_, (va_4, ky_cap mm (ky_tl a1), f_4, ml_0, fc), rfl, ⟨rfl, hm.cap, (hm.le (by omega)).1, hf_4, hch⟩, by rw [ht]; exact hP9, hD9, trivial⟩, hS.F ht⟩) hS.2.2 dc_X3_writeNumber_79
end
section
set_option linter.constructorNameAsVariable false in
set_option maxHeartbeats 4000000 in
set_option maxRecDepth 100000 in
theorem mt_X3_tellNumber (l : Launch) (G : ky_G) (sc : Nat) (fg : Nat) (fc : Nat → Int32) (b : Nat) (va : Nat) (mm : Nat) (n : Nat) (f : Nat → Int32) (ml : Int32) (a1 : Int64) (sz : Nat) (hm : ky_m2 mm) (hf : ky_fit f) (hch : ky_chs fc) (hn : n ≤ mm) : Met l my_X3_tellNumber (.code my_X3_tellNumber prog_5_method_2_code 3 (Option.some (Jvm.ClassFile.FieldType.object "java/lang/String")) :: ky_B) { frames := 9, cells := 3, slots := 72, locals := 201 } (ky_P G [.ref sc, .long (a1)] (ky_WC G sc fg fc b va mm n f ml) sz (fun _ => True)) (ky_Q (S := Nat × Nat × (Nat → Int32) × Int32 × (Nat → Int32)) G (va_A (ky_WC G sc fg fc b va mm n f ml) sz) (fun v u => (∃ z : Nat, v = some (.ref z)) ∧ ky_m2 u.2.1 ∧ (ky_tl a1) ≤ u.2.1 ∧ ky_fit u.2.2.1 ∧ ky_chs u.2.2.2.2) (fun u => ky_WC G sc fg u.2.2.2.2 b u.1 u.2.1 (ky_tl a1) u.2.2.1 u.2.2.2.1) (fun _ _ => True)) (3) (72) (va_A (ky_WC G sc fg fc b va mm n f ml) sz) := by
  refine ky_start (by decide) (Nat.le_of_ble_eq_true rfl) (fun p e s m below meth c F hE A hAe hsz hA hfr hP hD hS hX ls hl => ?_)
  obtain ⟨hx, hb, hml, hown, hr, hlocks, hts⟩ := id F
  have hl : lv_has ls 3 [(0, .ref sc), (1, .long (a1))] := hl
  have hP : va_P G.1 kcl [(sc, .inr (1, [.ref b, .ref fg])), (fg, .inl (G.2.1 1, 19, .inl (fc))), (b, .inr (6, [.ref va, .int (0), .int (ml), .int (nI (n))])), (va, .inl (G.2.1 0, mm, .inl (f)))] s.heap := hP
  have hD : va_D A [(sc, .inr (1, [.ref b, .ref fg])), (fg, .inl (G.2.1 1, 19, .inl (fc))), (b, .inr (6, [.ref va, .int (0), .int (ml), .int (nI (n))])), (va, .inl (G.2.1 0, mm, .inl (f)))] := hD
  refine lv_aload_n hx hb dc_X3_tellNumber_0 rfl (lv_at hl 0 rfl) ?_
  refine lv_lload_n hx hb dc_X3_tellNumber_1 rfl (lv_at hl 1 rfl) ?_
  refine ky_cVh (As := [.long (a1)]) (wr := []) F (hE.at hfr hS) hfr (mt_X3_writeNumber l G sc fg fc b va mm n f ml a1 s.heap.size hm hf hch hn) kv_X3_20 ⟨⟨rfl, rfl⟩, Nat.le_of_ble_eq_true rfl, Nat.le_of_ble_eq_true rfl⟩ rfl hl.1 rfl (Nat.le_of_ble_eq_true rfl) ⟨Nat.le_of_ble_eq_true rfl, Nat.le_of_ble_eq_true rfl⟩ (va_recv hE.1 hP (ci := 1) (q0 := 0) rfl rfl) trivial hP hD hS hA [0, 1, 2, 3] [] rfl rfl (by decide) (by decide) (by decide) dc_X3_tellNumber_2 ?_
  rintro v9 ⟨va_0, m_0, f_0, ml_0, fc_0⟩ H locs ⟨rfl, hm_0, hn_0, hf_0, hc_0⟩ hP hD hS - hz hk9
  have hP : va_P G.1 kcl [(sc, .inr (1, [.ref b, .ref fg])), (fg, .inl (G.2.1 1, 19, .inl (fc_0))), (b, .inr (6, [.ref va_0, .int (0), .int (ml_0), .int (nI (ky_tl a1))])), (va_0, .inl (G.2.1 0, m_0, .inl (f_0)))] H := hP
  have hD : va_D A [(sc, .inr (1, [.ref b, .ref fg])), (fg, .inl (G.2.1 1, 19, .inl (fc_0))), (b, .inr (6, [.ref va_0, .int (0), .int (ml_0), .int (nI (ky_tl a1))])), (va_0, .inl (G.2.1 0, m_0, .inl (f_0)))] := hD
  refine W.widen (k := 1) (n := 34) (by first | exact Nat.le_refl _ | omega) (by first | exact Nat.le_refl _ | omega) ?_
  refine lv_aload_n hx hb dc_X3_tellNumber_5 rfl (lv_at hl 0 rfl) ?_
  refine va_get (D := G.1) (ci := 1) (v := .ref b) (C := RX3) (T := TX3) (N := 2) hx hb hts ki_X3 hown hE.1 hP 0 rfl rfl 0 (by decide) (hts _ kw_1_78) (fun _ h9 => h9) rfl dc_X3_tellNumber_6 ?_
  refine ky_cVh (As := []) (wr := [(sc, .inr (1, [.ref b, .ref fg])), (fg, .inl (G.2.1 1, 19, .inl (fc_0)))]) F (hE.at hfr hS) hfr (mt_J4_toString_0e30d l G b va_0 m_0 (ky_tl a1) f_0 ml_0 H.size hn_0 (ky_m2.le34 hm_0) hf_0) kv_X3_24 ⟨⟨rfl, rfl⟩, Nat.le_of_ble_eq_true rfl, Nat.le_of_ble_eq_true rfl⟩ rfl hl.1 rfl (Nat.le_of_ble_eq_true rfl) ⟨Nat.le_of_ble_eq_true rfl, Nat.le_of_ble_eq_true rfl⟩ (va_recv hE.1 hP (ci := 6) (q0 := 2) rfl rfl) trivial hP hD hS hA [2, 3] [0, 1] rfl rfl (by decide) (by decide) (by decide) dc_X3_tellNumber_9 ?_
  rintro v9 ⟨z_1, y_1, g_1⟩ H locs ⟨rfl, hg_1⟩ hP hD hS - hz hk9
  have hP : va_P G.1 kcl [(sc, .inr (1, [.ref b, .ref fg])), (fg, .inl (G.2.1 1, 19, .inl (fc_0))), (b, .inr (6, [.ref va_0, .int (0), .int (ml_0), .int (nI (ky_tl a1))])), (va_0, .inl (G.2.1 0, m_0, .inl (f_0))), (z_1, .inr (7, [.ref y_1, .int (0), .int (0), .int (0)])), (y_1, .inl (G.2.1 0, ky_tl a1, .inl (g_1)))] H := hP
  have hD : va_D A [(sc, .inr (1, [.ref b, .ref fg])), (fg, .inl (G.2.1 1, 19, .inl (fc_0))), (b, .inr (6, [.ref va_0, .int (0), .int (ml_0), .int (nI (ky_tl a1))])), (va_0, .inl (G.2.1 0, m_0, .inl (f_0))), (z_1, .inr (7, [.ref y_1, .int (0), .int (0), .int (0)])), (y_1, .inl (G.2.1 0, ky_tl a1, .inl (g_1)))] := hD
  refine W.widen (k := 3) (n := 72) (by first | exact Nat.le_refl _ | omega) (by first | exact Nat.le_refl _ | omega) ?_
  have hP9 := hP.sub (ws' := [(sc, .inr (1, [.ref b, .ref fg])), (fg, .inl (G.2.1 1, 19, .inl (fc_0))), (b, .inr (6, [.ref va_0, .int (0), .int (ml_0), .int (nI (ky_tl a1))])), (va_0, .inl (G.2.1 0, m_0, .inl (f_0)))]) [0, 1, 2, 3] rfl
  have hD9 := hD.sub (ws' := [(sc, .inr (1, [.ref b, .ref fg])), (fg, .inl (G.2.1 1, 19, .inl (fc_0))), (b, .inr (6, [.ref va_0, .int (0), .int (ml_0), .int (nI (ky_tl a1))])), (va_0, .inl (G.2.1 0, m_0, .inl (f_0)))]) [0, 1, 2, 3] (by decide) rfl
  refine W.widen (k := 3) (n := 72) (Nat.le_of_ble_eq_true rfl) (Nat.le_of_ble_eq_true rfl) ?_
  exact W.aret (v := .ref z_1) hx hb hr (Or.inl ⟨_, rfl⟩) (Or.inr ⟨_, rfl⟩) (fun t ht hW => ⟨⟨_, (va_0, m_0, f_0, ml_0, fc_0), rfl, ⟨⟨_, rfl⟩, hm_0, hn_0, hf_0, hc_0⟩, by rw [ht]; exact hP9, hD9, trivial⟩, hS.F ht⟩) hS.2.2 dc_X3_tellNumber_12
set_option linter.constructorNameAsVariable false in
set_option maxHeartbeats 4000000 in
set_option maxRecDepth 100000 in
theorem mt_X3_countNumber (l : Launch) (G : ky_G) (sc : Nat) (fg : Nat) (fc : Nat → Int32) (b : Nat) (va : Nat) (mm : Nat) (n : Nat) (f : Nat → Int32) (ml : Int32) (a1 : Int64) (sz : Nat) (hm : ky_m2 mm) (hf : ky_fit f) (hch : ky_chs fc) (hn : n ≤ mm) : Met l my_X3_countNumber (.code my_X3_countNumber prog_5_method_3_code 3 (some .int) :: ky_B) { frames := 9, cells := 1, slots := 34, locals := 201 } (ky_P G [.ref sc, .long (a1)] (ky_WC G sc fg fc b va mm n f ml) sz (fun _ => True)) (ky_Q (S := Nat × Nat × (Nat → Int32) × Int32 × (Nat → Int32)) G (va_A (ky_WC G sc fg fc b va mm n f ml) sz) (fun v u => v = some (.int (nI (ky_tl a1))) ∧ ky_m2 u.2.1 ∧ (ky_tl a1) ≤ u.2.1 ∧ ky_fit u.2.2.1 ∧ ky_chs u.2.2.2.2) (fun u => ky_WC G sc fg u.2.2.2.2 b u.1 u.2.1 (ky_tl a1) u.2.2.1 u.2.2.2.1) (fun _ _ => True)) (1) (34) (va_A (ky_WC G sc fg fc b va mm n f ml) sz) := by
  refine ky_start (by decide) (Nat.le_of_ble_eq_true rfl) (fun p e s m below meth c F hE A hAe hsz hA hfr hP hD hS hX ls hl => ?_)
  obtain ⟨hx, hb, hml, hown, hr, hlocks, hts⟩ := id F
  have hl : lv_has ls 3 [(0, .ref sc), (1, .long (a1))] := hl
  have hP : va_P G.1 kcl [(sc, .inr (1, [.ref b, .ref fg])), (fg, .inl (G.2.1 1, 19, .inl (fc))), (b, .inr (6, [.ref va, .int (0), .int (ml), .int (nI (n))])), (va, .inl (G.2.1 0, mm, .inl (f)))] s.heap := hP
  have hD : va_D A [(sc, .inr (1, [.ref b, .ref fg])), (fg, .inl (G.2.1 1, 19, .inl (fc))), (b, .inr (6, [.ref va, .int (0), .int (ml), .int (nI (n))])), (va, .inl (G.2.1 0, mm, .inl (f)))] := hD
  refine lv_aload_n hx hb dc_X3_countNumber_0 rfl (lv_at hl 0 rfl) ?_
  refine lv_lload_n hx hb dc_X3_countNumber_1 rfl (lv_at hl 1 rfl) ?_
  refine ky_cVh (As := [.long (a1)]) (wr := []) F (hE.at hfr hS) hfr (mt_X3_writeNumber l G sc fg fc b va mm n f ml a1 s.heap.size hm hf hch hn) kv_X3_20 ⟨⟨rfl, rfl⟩, Nat.le_of_ble_eq_true rfl, Nat.le_of_ble_eq_true rfl⟩ rfl hl.1 rfl (Nat.le_of_ble_eq_true rfl) ⟨Nat.le_of_ble_eq_true rfl, Nat.le_of_ble_eq_true rfl⟩ (va_recv hE.1 hP (ci := 1) (q0 := 0) rfl rfl) trivial hP hD hS hA [0, 1, 2, 3] [] rfl rfl (by decide) (by decide) (by decide) dc_X3_countNumber_2 ?_
  rintro v9 ⟨va_0, m_0, f_0, ml_0, fc_0⟩ H locs ⟨rfl, hm_0, hn_0, hf_0, hc_0⟩ hP hD hS - hz hk9
  have hP : va_P G.1 kcl [(sc, .inr (1, [.ref b, .ref fg])), (fg, .inl (G.2.1 1, 19, .inl (fc_0))), (b, .inr (6, [.ref va_0, .int (0), .int (ml_0), .int (nI (ky_tl a1))])), (va_0, .inl (G.2.1 0, m_0, .inl (f_0)))] H := hP
  have hD : va_D A [(sc, .inr (1, [.ref b, .ref fg])), (fg, .inl (G.2.1 1, 19, .inl (fc_0))), (b, .inr (6, [.ref va_0, .int (0), .int (ml_0), .int (nI (ky_tl a1))])), (va_0, .inl (G.2.1 0, m_0, .inl (f_0)))] := hD
  refine W.widen (k := 1) (n := 34) (by first | exact Nat.le_refl _ | omega) (by first | exact Nat.le_refl _ | omega) ?_
  refine lv_aload_n hx hb dc_X3_countNumber_5 rfl (lv_at hl 0 rfl) ?_
  refine va_get (D := G.1) (ci := 1) (v := .ref b) (C := RX3) (T := TX3) (N := 2) hx hb hts ki_X3 hown hE.1 hP 0 rfl rfl 0 (by decide) (hts _ kw_1_78) (fun _ h9 => h9) rfl dc_X3_countNumber_6 ?_
  refine ky_cVh (As := []) (wr := [(sc, .inr (1, [.ref b, .ref fg])), (fg, .inl (G.2.1 1, 19, .inl (fc_0))), (va_0, .inl (G.2.1 0, m_0, .inl (f_0)))]) F (hE.at hfr hS) hfr (mt_J4_length_8abf5 l G b va_0 ml_0 (nI (ky_tl a1)) H.size ) kv_X3_28 ⟨⟨rfl, rfl⟩, Nat.le_of_ble_eq_true rfl, Nat.le_of_ble_eq_true rfl⟩ rfl hl.1 rfl (Nat.le_of_ble_eq_true rfl) ⟨Nat.le_of_ble_eq_true rfl, Nat.le_of_ble_eq_true rfl⟩ (va_recv hE.1 hP (ci := 6) (q0 := 2) rfl rfl) trivial hP hD hS hA [2] [0, 1, 3] rfl rfl (by decide) (by decide) (by decide) dc_X3_countNumber_9 ?_
  rintro v9 u9 H locs rfl hP hD hS - hz hk9
  have hP : va_P G.1 kcl [(sc, .inr (1, [.ref b, .ref fg])), (fg, .inl (G.2.1 1, 19, .inl (fc_0))), (va_0, .inl (G.2.1 0, m_0, .inl (f_0))), (b, .inr (6, [.ref va_0, .int (0), .int (ml_0), .int (nI (ky_tl a1))]))] H := hP
  have hD : va_D A [(sc, .inr (1, [.ref b, .ref fg])), (fg, .inl (G.2.1 1, 19, .inl (fc_0))), (va_0, .inl (G.2.1 0, m_0, .inl (f_0))), (b, .inr (6, [.ref va_0, .int (0), .int (ml_0), .int (nI (ky_tl a1))]))] := hD
  refine W.widen (k := 1) (n := 34) (by first | exact Nat.le_refl _ | omega) (by first | exact Nat.le_refl _ | omega) ?_
  have hP9 := hP.sub (ws' := [(sc, .inr (1, [.ref b, .ref fg])), (fg, .inl (G.2.1 1, 19, .inl (fc_0))), (b, .inr (6, [.ref va_0, .int (0), .int (ml_0), .int (nI (ky_tl a1))])), (va_0, .inl (G.2.1 0, m_0, .inl (f_0)))]) [0, 1, 3, 2] rfl
  have hD9 := hD.sub (ws' := [(sc, .inr (1, [.ref b, .ref fg])), (fg, .inl (G.2.1 1, 19, .inl (fc_0))), (b, .inr (6, [.ref va_0, .int (0), .int (ml_0), .int (nI (ky_tl a1))])), (va_0, .inl (G.2.1 0, m_0, .inl (f_0)))]) [0, 1, 3, 2] (by decide) rfl
  refine W.widen (k := 1) (n := 34) (Nat.le_of_ble_eq_true rfl) (Nat.le_of_ble_eq_true rfl) ?_
  exact W.iret (v := nI (ky_tl a1)) hx hb hr (fun t ht hW => ⟨⟨_, (va_0, m_0, f_0, ml_0, fc_0), rfl, ⟨rfl, hm_0, hn_0, hf_0, hc_0⟩, by rw [ht]; exact hP9, hD9, trivial⟩, hS.F ht⟩) hS.2.2 dc_X3_countNumber_12
set_option linter.constructorNameAsVariable false in
set_option maxHeartbeats 4000000 in
set_option maxRecDepth 100000 in
theorem mt_X3_tellWhole (l : Launch) (G : ky_G) (sc : Nat) (fg : Nat) (fc : Nat → Int32) (b : Nat) (va : Nat) (mm : Nat) (n : Nat) (f : Nat → Int32) (ml : Int32) (a1 : Int64) (sz : Nat) (hm : ky_m2 mm) (hf : ky_fit f) (hch : ky_chs fc) (hn : n ≤ mm) : Met l my_X3_tellWhole (.code my_X3_tellWhole prog_5_method_4_code 3 (Option.some (Jvm.ClassFile.FieldType.object "java/lang/String")) :: ky_B) { frames := 8, cells := 3, slots := 72, locals := 174 } (ky_P G [.ref sc, .long (a1)] (ky_WC G sc fg fc b va mm n f ml) sz (fun _ => True)) (ky_Q (S := Nat × Nat × (Nat → Int32) × Int32 × (Nat → Int32)) G (va_A (ky_WC G sc fg fc b va mm n f ml) sz) (fun v u => (∃ z : Nat, v = some (.ref z)) ∧ ky_m2 u.2.1 ∧ (0 + ky_szJ a1) ≤ u.2.1 ∧ ky_fit u.2.2.1 ∧ ky_chs u.2.2.2.2) (fun u => ky_WC G sc fg u.2.2.2.2 b u.1 u.2.1 (0 + ky_szJ a1) u.2.2.1 u.2.2.2.1) (fun _ _ => True)) (3) (72) (va_A (ky_WC G sc fg fc b va mm n f ml) sz) := by
  refine ky_start (by decide) (Nat.le_of_ble_eq_true rfl) (fun p e s m below meth c F hE A hAe hsz hA hfr hP hD hS hX ls hl => ?_)
  obtain ⟨hx, hb, hml, hown, hr, hlocks, hts⟩ := id F
  have hl : lv_has ls 3 [(0, .ref sc), (1, .long (a1))] := hl
  have hP : va_P G.1 kcl [(sc, .inr (1, [.ref b, .ref fg])), (fg, .inl (G.2.1 1, 19, .inl (fc))), (b, .inr (6, [.ref va, .int (0), .int (ml), .int (nI (n))])), (va, .inl (G.2.1 0, mm, .inl (f)))] s.heap := hP
  have hD : va_D A [(sc, .inr (1, [.ref b, .ref fg])), (fg, .inl (G.2.1 1, 19, .inl (fc))), (b, .inr (6, [.ref va, .int (0), .int (ml), .int (nI (n))])), (va, .inl (G.2.1 0, mm, .inl (f)))] := hD
  refine lv_aload_n hx hb dc_X3_tellWhole_0 rfl (lv_at hl 0 rfl) ?_
  refine lv_lload_n hx hb dc_X3_tellWhole_1 rfl (lv_at hl 1 rfl) ?_
  refine ky_cVh (As := [.long (a1)]) (wr := []) F (hE.at hfr hS) hfr (mt_X3_writeWhole l G sc fg fc b va mm n f ml a1 s.heap.size hm hf hch hn) kv_X3_32 ⟨⟨rfl, rfl⟩, Nat.le_of_ble_eq_true rfl, Nat.le_of_ble_eq_true rfl⟩ rfl hl.1 rfl (Nat.le_of_ble_eq_true rfl) ⟨Nat.le_of_ble_eq_true rfl, Nat.le_of_ble_eq_true rfl⟩ (va_recv hE.1 hP (ci := 1) (q0 := 0) rfl rfl) trivial hP hD hS hA [0, 1, 2, 3] [] rfl rfl (by decide) (by decide) (by decide) dc_X3_tellWhole_2 ?_
  rintro v9 ⟨va_0, m_0, f_0, ml_0, fc_0⟩ H locs ⟨rfl, hm_0, hn_0, hf_0, hc_0⟩ hP hD hS - hz hk9
  have hP : va_P G.1 kcl [(sc, .inr (1, [.ref b, .ref fg])), (fg, .inl (G.2.1 1, 19, .inl (fc_0))), (b, .inr (6, [.ref va_0, .int (0), .int (ml_0), .int (nI (0 + ky_szJ a1))])), (va_0, .inl (G.2.1 0, m_0, .inl (f_0)))] H := hP
  have hD : va_D A [(sc, .inr (1, [.ref b, .ref fg])), (fg, .inl (G.2.1 1, 19, .inl (fc_0))), (b, .inr (6, [.ref va_0, .int (0), .int (ml_0), .int (nI (0 + ky_szJ a1))])), (va_0, .inl (G.2.1 0, m_0, .inl (f_0)))] := hD
  refine W.widen (k := 1) (n := 34) (by first | exact Nat.le_refl _ | omega) (by first | exact Nat.le_refl _ | omega) ?_
  refine lv_aload_n hx hb dc_X3_tellWhole_5 rfl (lv_at hl 0 rfl) ?_
  refine va_get (D := G.1) (ci := 1) (v := .ref b) (C := RX3) (T := TX3) (N := 2) hx hb hts ki_X3 hown hE.1 hP 0 rfl rfl 0 (by decide) (hts _ kw_1_78) (fun _ h9 => h9) rfl dc_X3_tellWhole_6 ?_
  refine ky_cVh (As := []) (wr := [(sc, .inr (1, [.ref b, .ref fg])), (fg, .inl (G.2.1 1, 19, .inl (fc_0)))]) F (hE.at hfr hS) hfr (mt_J4_toString_0e30d l G b va_0 m_0 (0 + ky_szJ a1) f_0 ml_0 H.size hn_0 (ky_m2.le34 hm_0) hf_0) kv_X3_24 ⟨⟨rfl, rfl⟩, Nat.le_of_ble_eq_true rfl, Nat.le_of_ble_eq_true rfl⟩ rfl hl.1 rfl (Nat.le_of_ble_eq_true rfl) ⟨Nat.le_of_ble_eq_true rfl, Nat.le_of_ble_eq_true rfl⟩ (va_recv hE.1 hP (ci := 6) (q0 := 2) rfl rfl) trivial hP hD hS hA [2, 3] [0, 1] rfl rfl (by decide) (by decide) (by decide) dc_X3_tellWhole_9 ?_
  rintro v9 ⟨z_1, y_1, g_1⟩ H locs ⟨rfl, hg_1⟩ hP hD hS - hz hk9
  have hP : va_P G.1 kcl [(sc, .inr (1, [.ref b, .ref fg])), (fg, .inl (G.2.1 1, 19, .inl (fc_0))), (b, .inr (6, [.ref va_0, .int (0), .int (ml_0), .int (nI (0 + ky_szJ a1))])), (va_0, .inl (G.2.1 0, m_0, .inl (f_0))), (z_1, .inr (7, [.ref y_1, .int (0), .int (0), .int (0)])), (y_1, .inl (G.2.1 0, 0 + ky_szJ a1, .inl (g_1)))] H := hP
  have hD : va_D A [(sc, .inr (1, [.ref b, .ref fg])), (fg, .inl (G.2.1 1, 19, .inl (fc_0))), (b, .inr (6, [.ref va_0, .int (0), .int (ml_0), .int (nI (0 + ky_szJ a1))])), (va_0, .inl (G.2.1 0, m_0, .inl (f_0))), (z_1, .inr (7, [.ref y_1, .int (0), .int (0), .int (0)])), (y_1, .inl (G.2.1 0, 0 + ky_szJ a1, .inl (g_1)))] := hD
  refine W.widen (k := 3) (n := 72) (by first | exact Nat.le_refl _ | omega) (by first | exact Nat.le_refl _ | omega) ?_
  have hP9 := hP.sub (ws' := [(sc, .inr (1, [.ref b, .ref fg])), (fg, .inl (G.2.1 1, 19, .inl (fc_0))), (b, .inr (6, [.ref va_0, .int (0), .int (ml_0), .int (nI (0 + ky_szJ a1))])), (va_0, .inl (G.2.1 0, m_0, .inl (f_0)))]) [0, 1, 2, 3] rfl
  have hD9 := hD.sub (ws' := [(sc, .inr (1, [.ref b, .ref fg])), (fg, .inl (G.2.1 1, 19, .inl (fc_0))), (b, .inr (6, [.ref va_0, .int (0), .int (ml_0), .int (nI (0 + ky_szJ a1))])), (va_0, .inl (G.2.1 0, m_0, .inl (f_0)))]) [0, 1, 2, 3] (by decide) rfl
  refine W.widen (k := 3) (n := 72) (Nat.le_of_ble_eq_true rfl) (Nat.le_of_ble_eq_true rfl) ?_
  exact W.aret (v := .ref z_1) hx hb hr (Or.inl ⟨_, rfl⟩) (Or.inr ⟨_, rfl⟩) (fun t ht hW => ⟨⟨_, (va_0, m_0, f_0, ml_0, fc_0), rfl, ⟨⟨_, rfl⟩, hm_0, hn_0, hf_0, hc_0⟩, by rw [ht]; exact hP9, hD9, trivial⟩, hS.F ht⟩) hS.2.2 dc_X3_tellWhole_12
set_option linter.constructorNameAsVariable false in
set_option maxHeartbeats 4000000 in
set_option maxRecDepth 100000 in
theorem mt_X3_countWhole (l : Launch) (G : ky_G) (sc : Nat) (fg : Nat) (fc : Nat → Int32) (b : Nat) (va : Nat) (mm : Nat) (n : Nat) (f : Nat → Int32) (ml : Int32) (a1 : Int64) (sz : Nat) (hm : ky_m2 mm) (hf : ky_fit f) (hch : ky_chs fc) (hn : n ≤ mm) : Met l my_X3_countWhole (.code my_X3_countWhole prog_5_method_5_code 3 (some .int) :: ky_B) { frames := 8, cells := 1, slots := 34, locals := 174 } (ky_P G [.ref sc, .long (a1)] (ky_WC G sc fg fc b va mm n f ml) sz (fun _ => True)) (ky_Q (S := Nat × Nat × (Nat → Int32) × Int32 × (Nat → Int32)) G (va_A (ky_WC G sc fg fc b va mm n f ml) sz) (fun v u => v = some (.int (nI (0 + ky_szJ a1))) ∧ ky_m2 u.2.1 ∧ (0 + ky_szJ a1) ≤ u.2.1 ∧ ky_fit u.2.2.1 ∧ ky_chs u.2.2.2.2) (fun u => ky_WC G sc fg u.2.2.2.2 b u.1 u.2.1 (0 + ky_szJ a1) u.2.2.1 u.2.2.2.1) (fun _ _ => True)) (1) (34) (va_A (ky_WC G sc fg fc b va mm n f ml) sz) := by
  refine ky_start (by decide) (Nat.le_of_ble_eq_true rfl) (fun p e s m below meth c F hE A hAe hsz hA hfr hP hD hS hX ls hl => ?_)
  obtain ⟨hx, hb, hml, hown, hr, hlocks, hts⟩ := id F
  have hl : lv_has ls 3 [(0, .ref sc), (1, .long (a1))] := hl
  have hP : va_P G.1 kcl [(sc, .inr (1, [.ref b, .ref fg])), (fg, .inl (G.2.1 1, 19, .inl (fc))), (b, .inr (6, [.ref va, .int (0), .int (ml), .int (nI (n))])), (va, .inl (G.2.1 0, mm, .inl (f)))] s.heap := hP
  have hD : va_D A [(sc, .inr (1, [.ref b, .ref fg])), (fg, .inl (G.2.1 1, 19, .inl (fc))), (b, .inr (6, [.ref va, .int (0), .int (ml), .int (nI (n))])), (va, .inl (G.2.1 0, mm, .inl (f)))] := hD
  refine lv_aload_n hx hb dc_X3_countWhole_0 rfl (lv_at hl 0 rfl) ?_
  refine lv_lload_n hx hb dc_X3_countWhole_1 rfl (lv_at hl 1 rfl) ?_
  refine ky_cVh (As := [.long (a1)]) (wr := []) F (hE.at hfr hS) hfr (mt_X3_writeWhole l G sc fg fc b va mm n f ml a1 s.heap.size hm hf hch hn) kv_X3_32 ⟨⟨rfl, rfl⟩, Nat.le_of_ble_eq_true rfl, Nat.le_of_ble_eq_true rfl⟩ rfl hl.1 rfl (Nat.le_of_ble_eq_true rfl) ⟨Nat.le_of_ble_eq_true rfl, Nat.le_of_ble_eq_true rfl⟩ (va_recv hE.1 hP (ci := 1) (q0 := 0) rfl rfl) trivial hP hD hS hA [0, 1, 2, 3] [] rfl rfl (by decide) (by decide) (by decide) dc_X3_countWhole_2 ?_
  rintro v9 ⟨va_0, m_0, f_0, ml_0, fc_0⟩ H locs ⟨rfl, hm_0, hn_0, hf_0, hc_0⟩ hP hD hS - hz hk9
  have hP : va_P G.1 kcl [(sc, .inr (1, [.ref b, .ref fg])), (fg, .inl (G.2.1 1, 19, .inl (fc_0))), (b, .inr (6, [.ref va_0, .int (0), .int (ml_0), .int (nI (0 + ky_szJ a1))])), (va_0, .inl (G.2.1 0, m_0, .inl (f_0)))] H := hP
  have hD : va_D A [(sc, .inr (1, [.ref b, .ref fg])), (fg, .inl (G.2.1 1, 19, .inl (fc_0))), (b, .inr (6, [.ref va_0, .int (0), .int (ml_0), .int (nI (0 + ky_szJ a1))])), (va_0, .inl (G.2.1 0, m_0, .inl (f_0)))] := hD
  refine W.widen (k := 1) (n := 34) (by first | exact Nat.le_refl _ | omega) (by first | exact Nat.le_refl _ | omega) ?_
  refine lv_aload_n hx hb dc_X3_countWhole_5 rfl (lv_at hl 0 rfl) ?_
  refine va_get (D := G.1) (ci := 1) (v := .ref b) (C := RX3) (T := TX3) (N := 2) hx hb hts ki_X3 hown hE.1 hP 0 rfl rfl 0 (by decide) (hts _ kw_1_78) (fun _ h9 => h9) rfl dc_X3_countWhole_6 ?_
  refine ky_cVh (As := []) (wr := [(sc, .inr (1, [.ref b, .ref fg])), (fg, .inl (G.2.1 1, 19, .inl (fc_0))), (va_0, .inl (G.2.1 0, m_0, .inl (f_0)))]) F (hE.at hfr hS) hfr (mt_J4_length_8abf5 l G b va_0 ml_0 (nI (0 + ky_szJ a1)) H.size ) kv_X3_28 ⟨⟨rfl, rfl⟩, Nat.le_of_ble_eq_true rfl, Nat.le_of_ble_eq_true rfl⟩ rfl hl.1 rfl (Nat.le_of_ble_eq_true rfl) ⟨Nat.le_of_ble_eq_true rfl, Nat.le_of_ble_eq_true rfl⟩ (va_recv hE.1 hP (ci := 6) (q0 := 2) rfl rfl) trivial hP hD hS hA [2] [0, 1, 3] rfl rfl (by decide) (by decide) (by decide) dc_X3_countWhole_9 ?_
  rintro v9 u9 H locs rfl hP hD hS - hz hk9
  have hP : va_P G.1 kcl [(sc, .inr (1, [.ref b, .ref fg])), (fg, .inl (G.2.1 1, 19, .inl (fc_0))), (va_0, .inl (G.2.1 0, m_0, .inl (f_0))), (b, .inr (6, [.ref va_0, .int (0), .int (ml_0), .int (nI (0 + ky_szJ a1))]))] H := hP
  have hD : va_D A [(sc, .inr (1, [.ref b, .ref fg])), (fg, .inl (G.2.1 1, 19, .inl (fc_0))), (va_0, .inl (G.2.1 0, m_0, .inl (f_0))), (b, .inr (6, [.ref va_0, .int (0), .int (ml_0), .int (nI (0 + ky_szJ a1))]))] := hD
  refine W.widen (k := 1) (n := 34) (by first | exact Nat.le_refl _ | omega) (by first | exact Nat.le_refl _ | omega) ?_
  have hP9 := hP.sub (ws' := [(sc, .inr (1, [.ref b, .ref fg])), (fg, .inl (G.2.1 1, 19, .inl (fc_0))), (b, .inr (6, [.ref va_0, .int (0), .int (ml_0), .int (nI (0 + ky_szJ a1))])), (va_0, .inl (G.2.1 0, m_0, .inl (f_0)))]) [0, 1, 3, 2] rfl
  have hD9 := hD.sub (ws' := [(sc, .inr (1, [.ref b, .ref fg])), (fg, .inl (G.2.1 1, 19, .inl (fc_0))), (b, .inr (6, [.ref va_0, .int (0), .int (ml_0), .int (nI (0 + ky_szJ a1))])), (va_0, .inl (G.2.1 0, m_0, .inl (f_0)))]) [0, 1, 3, 2] (by decide) rfl
  refine W.widen (k := 1) (n := 34) (Nat.le_of_ble_eq_true rfl) (Nat.le_of_ble_eq_true rfl) ?_
  exact W.iret (v := nI (0 + ky_szJ a1)) hx hb hr (fun t ht hW => ⟨⟨_, (va_0, m_0, f_0, ml_0, fc_0), rfl, ⟨rfl, hm_0, hn_0, hf_0, hc_0⟩, by rw [ht]; exact hP9, hD9, trivial⟩, hS.F ht⟩) hS.2.2 dc_X3_countWhole_12
set_option linter.constructorNameAsVariable false in
set_option maxHeartbeats 4000000 in
set_option maxRecDepth 100000 in
theorem mt_X3_init (l : Launch) (G : ky_G) (x : Nat) (sz : Nat)  : Met l my_X3_init (.code my_X3_init prog_5_method_1_code 1 none :: ky_B) { frames := 3, cells := 3, slots := 39, locals := 53 } (ky_P G [.ref x] ([(x, .inr (1, [.null, .null]))]) sz (fun _ => True)) (ky_Q (S := Nat × Nat × Nat) G (va_A ([(x, .inr (1, [.null, .null]))]) sz) (fun v _ => v = none) (fun u => ky_WC G x u.1 (fun _ => 0) u.2.1 u.2.2 16 0 (fun _ => 0) 0) (fun _ _ => True)) (3) (39) (va_A ([(x, .inr (1, [.null, .null]))]) sz) := by
  refine ky_startI (by decide) (Nat.le_of_ble_eq_true rfl) (fun p e s m below meth c hin F hE A hAe hsz hA hfr hP hD hS hX ls hl => ?_)
  obtain ⟨hx, hb, hml, hown, hr, hlocks, hts⟩ := id F
  have hl : lv_has ls 1 [(0, .ref x)] := hl
  have hP : va_P G.1 kcl [(x, .inr (1, [.null, .null]))] s.heap := hP
  have hD : va_D A [(x, .inr (1, [.null, .null]))] := hD
  refine lv_aload_n hx hb dc_X3_init_0 rfl (lv_at hl 0 rfl) ?_
  refine W.objInit hx hb hown (hts _ kw_1_43) (hts _ kw_1_36) (hts _ kw_1_37) rfl (by rw [hml]; exact hl.1) rfl dc_X3_init_1 (Nat.le_of_ble_eq_true rfl) (Nat.le_of_ble_eq_true rfl) ?_
  refine W.eq (g2 := F0 m 4 ls []) rfl ?_
  refine lv_aload_n hx hb dc_X3_init_4 rfl (lv_at hl 0 rfl) ?_
  refine va_new (ci := 6) (fs := [.null, .int (0), .int (0), .int (0)]) (C := RJ4) (T := TJ4) (N := 4) hx hb hts ki_J4 tyJ4 tyJ4_ok hown (hts _ kw_1_44) (hts _ kw_1_45) (hts _ kw_1_4) hE.1 hP hD hS hA rfl (fun j hj => by rcases (show j = 0 ∨ j = 1 ∨ j = 2 ∨ j = 3 by omega) with rfl | rfl | rfl | rfl <;> rfl) (Nat.le_of_ble_eq_true rfl) (Nat.le_of_ble_eq_true rfl) dc_X3_init_5 (fun q_0 H hP hD hS => ?_)
  have hP : va_P G.1 kcl [(x, .inr (1, [.null, .null])), (q_0, .inr (6, [.null, .int (0), .int (0), .int (0)]))] H := hP
  have hD : va_D A [(x, .inr (1, [.null, .null])), (q_0, .inr (6, [.null, .int (0), .int (0), .int (0)]))] := hD
  refine W.widen (k := 1) (n := 4) (Nat.le_refl _) (Nat.le_refl _) ?_
  refine lv_dup hx hb dc_X3_init_8 rfl ?_
  refine ky_cIh (As := []) (wr := [(x, .inr (1, [.null, .null]))]) F (hE.at hfr hS) hfr (mt_J4_init_da8c8 l G q_0 H.size ) kI_X3_9 ⟨⟨rfl, rfl⟩, Nat.le_of_ble_eq_true rfl, Nat.le_of_ble_eq_true rfl⟩ rfl hl.1 rfl (Nat.le_of_ble_eq_true rfl) ⟨Nat.le_of_ble_eq_true rfl, Nat.le_of_ble_eq_true rfl⟩ trivial hP hD hS hA [1] [0] rfl rfl (by decide) (by decide) (by decide) dc_X3_init_9 ?_
  rintro v9 va_1 H locs rfl hP hD hS - hz hk9
  have hP : va_P G.1 kcl [(x, .inr (1, [.null, .null])), (q_0, .inr (6, [.ref va_1, .int (0), .int (0), .int (nI (0))])), (va_1, .inl (G.2.1 0, 16, .inl (fun _ => 0)))] H := hP
  have hD : va_D A [(x, .inr (1, [.null, .null])), (q_0, .inr (6, [.ref va_1, .int (0), .int (0), .int (nI (0))])), (va_1, .inl (G.2.1 0, 16, .inl (fun _ => 0)))] := hD
  refine W.widen (k := 2) (n := 20) (by first | exact Nat.le_refl _ | omega) (by first | exact Nat.le_refl _ | omega) ?_
  refine va_putF (D := G.1) (ci := 1) (v := .ref q_0) (ty := .object "java/lang/StringBuilder") (C := RX3) (T := TX3) (N := 2) hx hb hts ki_X3 tyX3 tyX3_ok nmX3 hown hE.1 hP hD hS 0 rfl rfl 0 (by decide) (hts _ kw_1_78) (fun _ h9 => h9) rfl hin rfl (by decide +kernel) rfl rfl (Nat.le_of_ble_eq_true rfl) dc_X3_init_12 (fun H locs hP hD hS => ?_)
  have hP : va_P G.1 kcl [(x, .inr (1, [.ref q_0, .null])), (q_0, .inr (6, [.ref va_1, .int (0), .int (0), .int (nI (0))])), (va_1, .inl (G.2.1 0, 16, .inl (fun _ => 0)))] H := hP
  have hD : va_D A [(x, .inr (1, [.ref q_0, .null])), (q_0, .inr (6, [.ref va_1, .int (0), .int (0), .int (nI (0))])), (va_1, .inl (G.2.1 0, 16, .inl (fun _ => 0)))] := hD
  refine lv_aload_n hx hb dc_X3_init_15 rfl (lv_at hl 0 rfl) ?_
  refine lv_bipush (v := 19) hx hb dc_X3_init_16 (by decide) ?_
  refine va_newa (atype := .char) (ty := .char) (N' := 19) (a0 := (19, .inl (fun _ => 0))) hx hb (hts _ kw_1_85) rfl hE.1 hP hD hS hA (fun _ => rfl) (by decide) (by decide) (by decide) (Nat.le_of_ble_eq_true rfl) (Nat.le_of_ble_eq_true rfl) dc_X3_init_18 (fun q_2 cA_2 H hK_2 hP hD hS => ?_)
  have hc_2 : cA_2 = G.2.1 1 := ky_nB 1 hE.1 hK_2 rfl (fun _ h => by cases h)
  subst hc_2
  have hP : va_P G.1 kcl [(x, .inr (1, [.ref q_0, .null])), (q_0, .inr (6, [.ref va_1, .int (0), .int (0), .int (nI (0))])), (va_1, .inl (G.2.1 0, 16, .inl (fun _ => 0))), (q_2, .inl (G.2.1 1, 19, .inl (fun _ => 0)))] H := hP
  have hD : va_D A [(x, .inr (1, [.ref q_0, .null])), (q_0, .inr (6, [.ref va_1, .int (0), .int (0), .int (nI (0))])), (va_1, .inl (G.2.1 0, 16, .inl (fun _ => 0))), (q_2, .inl (G.2.1 1, 19, .inl (fun _ => 0)))] := hD
  refine W.widen (k := 3) (n := 39) (by first | exact Nat.le_refl _ | omega) (by first | exact Nat.le_refl _ | omega) ?_
  refine va_putF (D := G.1) (ci := 1) (v := .ref q_2) (ty := .array .char) (C := RX3) (T := TX3) (N := 2) hx hb hts ki_X3 tyX3 tyX3_ok nmX3 hown hE.1 hP hD hS 0 rfl rfl 1 (by decide) (hts _ kw_1_79) (fun _ h9 => h9) rfl hin rfl (by decide +kernel) rfl rfl (Nat.le_of_ble_eq_true rfl) dc_X3_init_20 (fun H locs hP hD hS => ?_)
  have hP : va_P G.1 kcl [(x, .inr (1, [.ref q_0, .ref q_2])), (q_0, .inr (6, [.ref va_1, .int (0), .int (0), .int (nI (0))])), (va_1, .inl (G.2.1 0, 16, .inl (fun _ => 0))), (q_2, .inl (G.2.1 1, 19, .inl (fun _ => 0)))] H := hP
  have hD : va_D A [(x, .inr (1, [.ref q_0, .ref q_2])), (q_0, .inr (6, [.ref va_1, .int (0), .int (0), .int (nI (0))])), (va_1, .inl (G.2.1 0, 16, .inl (fun _ => 0))), (q_2, .inl (G.2.1 1, 19, .inl (fun _ => 0)))] := hD
  have hP9 := hP.sub (ws' := [(x, .inr (1, [.ref q_0, .ref q_2])), (q_2, .inl (G.2.1 1, 19, .inl (fun _ => 0))), (q_0, .inr (6, [.ref va_1, .int (0), .int (0), .int (nI (0))])), (va_1, .inl (G.2.1 0, 16, .inl (fun _ => 0)))]) [0, 3, 1, 2] rfl
  have hD9 := hD.sub (ws' := [(x, .inr (1, [.ref q_0, .ref q_2])), (q_2, .inl (G.2.1 1, 19, .inl (fun _ => 0))), (q_0, .inr (6, [.ref va_1, .int (0), .int (0), .int (nI (0))])), (va_1, .inl (G.2.1 0, 16, .inl (fun _ => 0)))]) [0, 3, 1, 2] (by decide) rfl
  refine W.widen (k := 3) (n := 39) (Nat.le_of_ble_eq_true rfl) (Nat.le_of_ble_eq_true rfl) ?_
  exact W.vret hx hb hr (fun t ht hW => ⟨⟨_, (q_2, q_0, va_1), rfl, rfl, by rw [ht]; exact hP9, hD9, trivial⟩, hS.F ht⟩) hS.2.2 dc_X3_init_23
end
section
/-! the proof's object and its eight rows -/
abbrev ky_WPf (G : ky_G) (pf tk : Nat) (r : Nat → Nat) (g : Nat → Nat → Int64) : va_W := [(pf, .inr (2, [.ref tk])), (tk, .inl (G.2.1 4, 8, .inr (.inr (.inr (.inr (fun j => if j < 8 then some (r j) else none)))))), ((r 0), .inl (G.2.1 2, 6, .inr (.inl (g 0)))), ((r 1), .inl (G.2.1 2, 6, .inr (.inl (g 1)))), ((r 2), .inl (G.2.1 2, 6, .inr (.inl (g 2)))), ((r 3), .inl (G.2.1 2, 6, .inr (.inl (g 3)))), ((r 4), .inl (G.2.1 2, 6, .inr (.inl (g 4)))), ((r 5), .inl (G.2.1 2, 6, .inr (.inl (g 5)))), ((r 6), .inl (G.2.1 2, 6, .inr (.inl (g 6)))), ((r 7), .inl (G.2.1 2, 6, .inr (.inl (g 7))))]
def ky_bool (v : Option Value) : Prop := ∃ z : Int32, v = some (.int z) ∧ (z = 0 ∨ z = 1)
section KYAA
variable {p : Program} {l : Launch} {e : Env} {R : Room} {s : State} {m : MethodId} {args : Array Value} {below : List Frame} {meth : Method} {c : Code} {H : Heap} {locs : List Loc} {cells slots : Nat} {Q : State → Prop}
variable {cc : ByteArray} {pc : Nat} {ls : Array Slot} {rest : List Value} {A : Nat → Prop} {G : ky_G} {ws : va_W}
/-- a row out of a row of rows of longs -/
theorem ky_aldA (hx : p.tables.exec = Jvm.exec) (hb : c.code = cc) (hK : va_K G.1 kcl (ky_tys G.2.1) s) (hP : va_P G.1 kcl ws H) (q0 : Nat) {a n : Nat} {f : Nat → Option Nat} (ha : ws[q0]? = some (a, .inl (G.2.1 4, n, .inr (.inr (.inr (.inr f)))))) {i : Int32} (hin : vp_in i n) (hdg : decode cc pc = .ok (.aaload, 1))
    (kk : W p l e R s m args below meth c H locs cells slots Q (F0 m (pc + 1) ls (va_rf (f i.toNatClampNeg) :: rest))) : W p l e R s m args below meth c H locs cells slots Q (F0 m pc ls (.int i :: .ref a :: rest)) := by
  have hlt : i.toNatClampNeg < n := Nat.not_le.mp fun q => hin (Or.inr q)
  refine W.aald (v := va_rf (f i.toNatClampNeg)) (ty := .array .long) hx hb (hP q0 _ ha) ((hK.2 4 _ rfl).1 n (fun j => va_rf (f j))) rfl (fun q => by cases q) ?_ ?_ rfl rfl hdg kk
  · show ¬ (i < 0 ∨ (arrV _ _ _).slots.size ≤ _)
    rw [arrV_size]
    exact hin
  · show (arrV _ _ _).slots[_]? = _
    rw [arrV_read _ _ hlt]
end KYAA
end
