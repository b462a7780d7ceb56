set_option linter.constructorNameAsVariable false in
set_option maxHeartbeats 4000000 in
set_option maxRecDepth 100000 in
theorem mt_X3_tellNumber (l : Launch) (G : ky_G) (sc : Nat) (fg : Nat) (fc : Nat → Int32) (b : Nat) (va : Nat) (mm : Nat) (n : Nat) (f : Nat → Int32) (ml : Int32) (a1 : Int64) (sz : Nat) (hm : ky_m2 mm) (hf : ky_fit f) (hch : ky_chs fc) (hn : n ≤ mm) : Met l my_X3_tellNumber (.code my_X3_tellNumber prog_5_method_2_code 3 (Option.some (Jvm.ClassFile.FieldType.object "java/lang/String")) :: ky_B) { frames := 9, cells := 3, slots := 72, locals := 201 } (ky_P G [.ref sc, .long (a1)] (ky_WC G sc fg fc b va mm n f ml) sz (fun _ => True)) (ky_Q (S := Nat × Nat × (Nat → Int32) × Int32 × (Nat → Int32)) G (va_A (ky_WC G sc fg fc b va mm n f ml) sz) (fun v u => (∃ z : Nat, v = some (.ref z)) ∧ ky_m2 u.2.1 ∧ (ky_tl a1) ≤ u.2.1 ∧ ky_fit u.2.2.1 ∧ ky_chs u.2.2.2.2) (fun u => ky_WC G sc fg u.2.2.2.2 b u.1 u.2.1 (ky_tl a1) u.2.2.1 u.2.2.2.1) (fun _ _ => True)) (3) (72) (va_A (ky_WC G sc fg fc b va mm n f ml) sz) := by
  refine ky_start (by decide) (Nat.le_of_ble_eq_true rfl) (fun p e s m below meth c F hE A hAe hsz hA hfr hP hD hS hX ls hl => ?_)
  obtain ⟨hx, hb, hml, hown, hr, hlocks, hts⟩ := id F
  have hl : lv_has ls 3 [(0, .ref sc), (1, .long (a1))] := hl
  have hP : va_P G.1 kcl [(sc, .inr (1, [.ref b, .ref fg])), (fg, .inl (G.2.1 1, 19, .inl (fc))), (b, .inr (6, [.ref va, .int (0), .int (ml), .int (nI (n))])), (va, .inl (G.2.1 0, mm, .inl (f)))] s.heap := hP
  have hD : va_D A [(sc, .inr (1, [.ref b, .ref fg])), (fg, .inl (G.2.1 1, 19, .inl (fc))), (b, .inr (6, [.ref va, .int (0), .int (ml), .int (nI (n))])), (va, .inl (G.2.1 0, mm, .inl (f)))] := hD
  refine lv_aload_n hx hb dc_X3_tellNumber_0 rfl (lv_at hl 0 rfl) ?_
  refine lv_lload_n hx hb dc_X3_tellNumber_1 rfl (lv_at hl 1 rfl) ?_
  refine ky_cVh (As := [.long (a1)]) (wr := []) F (hE.at hfr hS) hfr (mt_X3_writeNumber l G sc fg fc b va mm n f ml a1 s.heap.size hm hf hch hn) kv_X3_20 ⟨⟨rfl, rfl⟩, Nat.le_of_ble_eq_true rfl, Nat.le_of_ble_eq_true rfl⟩ rfl hl.1 rfl (Nat.le_of_ble_eq_true rfl) ⟨Nat.le_of_ble_eq_true rfl, Nat.le_of_ble_eq_true rfl⟩ (va_recv hE.1 hP (ci := 1) (q0 := 0) rfl rfl) trivial hP hD hS hA [0, 1, 2, 3] [] rfl rfl (by decide) (by decide) (by decide) dc_X3_tellNumber_2 ?_
  rintro v9 ⟨va_0, m_0, f_0, ml_0, fc_0⟩ H locs ⟨rfl, hm_0, hn_0, hf_0, hc_0⟩ hP hD hS - hz hk9
  have hP : va_P G.1 kcl [(sc, .inr (1, [.ref b, .ref fg])), (fg, .inl (G.2.1 1, 19, .inl (fc_0))), (b, .inr (6, [.ref va_0, .int (0), .int (ml_0), .int (nI (ky_tl a1))])), (va_0, .inl (G.2.1 0, m_0, .inl (f_0)))] H := hP
  have hD : va_D A [(sc, .inr (1, [.ref b, .ref fg])), (fg, .inl (G.2.1 1, 19, .inl (fc_0))), (b, .inr (6, [.ref va_0, .int (0), .int (ml_0), .int (nI (ky_tl a1))])), (va_0, .inl (G.2.1 0, m_0, .inl (f_0)))] := hD
  refine W.widen (k := 1) (n := 34) (by first | exact Nat.le_refl _ | omega) (by first | exact Nat.le_refl _ | omega) ?_
  refine lv_aload_n hx hb dc_X3_tellNumber_5 rfl (lv_at hl 0 rfl) ?_
  refine va_get (D := G.1) (ci := 1) (v := .ref b) (C := RX3) (T := TX3) (N := 2) hx hb hts ki_X3 hown hE.1 hP 0 rfl rfl 0 (by decide) (hts _ kw_1_78) (fun _ h9 => h9) rfl dc_X3_tellNumber_6 ?_
  refine ky_cVh (As := []) (wr := [(sc, .inr (1, [.ref b, .ref fg])), (fg, .inl (G.2.1 1, 19, .inl (fc_0)))]) F (hE.at hfr hS) hfr (mt_J4_toString_0e30d l G b va_0 m_0 (ky_tl a1) f_0 ml_0 H.size hn_0 (ky_m2.le34 hm_0) hf_0) kv_X3_24 ⟨⟨rfl, rfl⟩, Nat.le_of_ble_eq_true rfl, Nat.le_of_ble_eq_true rfl⟩ rfl hl.1 rfl (Nat.le_of_ble_eq_true rfl) ⟨Nat.le_of_ble_eq_true rfl, Nat.le_of_ble_eq_true rfl⟩ (va_recv hE.1 hP (ci := 6) (q0 := 2) rfl rfl) trivial hP hD hS hA [2, 3] [0, 1] rfl rfl (by decide) (by decide) (by decide) dc_X3_tellNumber_9 ?_
  rintro v9 ⟨z_1, y_1, g_1⟩ H locs ⟨rfl, hg_1⟩ hP hD hS - hz hk9
  have hP : va_P G.1 kcl [(sc, .inr (1, [.ref b, .ref fg])), (fg, .inl (G.2.1 1, 19, .inl (fc_0))), (b, .inr (6, [.ref va_0, .int (0), .int (ml_0), .int (nI (ky_tl a1))])), (va_0, .inl (G.2.1 0, m_0, .inl (f_0))), (z_1, .inr (7, [.ref y_1, .int (0), .int (0), .int (0)])), (y_1, .inl (G.2.1 0, ky_tl a1, .inl (g_1)))] H := hP
  have hD : va_D A [(sc, .inr (1, [.ref b, .ref fg])), (fg, .inl (G.2.1 1, 19, .inl (fc_0))), (b, .inr (6, [.ref va_0, .int (0), .int (ml_0), .int (nI (ky_tl a1))])), (va_0, .inl (G.2.1 0, m_0, .inl (f_0))), (z_1, .inr (7, [.ref y_1, .int (0), .int (0), .int (0)])), (y_1, .inl (G.2.1 0, ky_tl a1, .inl (g_1)))] := hD
  refine W.widen (k := 3) (n := 72) (by first | exact Nat.le_refl _ | omega) (by first | exact Nat.le_refl _ | omega) ?_
  have hP9 := hP.sub (ws' := [(sc, .inr (1, [.ref b, .ref fg])), (fg, .inl (G.2.1 1, 19, .inl (fc_0))), (b, .inr (6, [.ref va_0, .int (0), .int (ml_0), .int (nI (ky_tl a1))])), (va_0, .inl (G.2.1 0, m_0, .inl (f_0)))]) [0, 1, 2, 3] rfl
  have hD9 := hD.sub (ws' := [(sc, .inr (1, [.ref b, .ref fg])), (fg, .inl (G.2.1 1, 19, .inl (fc_0))), (b, .inr (6, [.ref va_0, .int (0), .int (ml_0), .int (nI (ky_tl a1))])), (va_0, .inl (G.2.1 0, m_0, .inl (f_0)))]) [0, 1, 2, 3] (by decide) rfl
  refine W.widen (k := 3) (n := 72) (Nat.le_of_ble_eq_true rfl) (Nat.le_of_ble_eq_true rfl) ?_
  exact W.aret (v := .ref z_1) hx hb hr (Or.inl ⟨_, rfl⟩) (Or.inr ⟨_, rfl⟩) (fun t ht hW => ⟨⟨_, (va_0, m_0, f_0, ml_0, fc_0), rfl, ⟨⟨_, rfl⟩, hm_0, hn_0, hf_0, hc_0⟩, by rw [ht]; exact hP9, hD9, trivial⟩, hS.F ht⟩) hS.2.2 dc_X3_tellNumber_12
set_option linter.constructorNameAsVariable false in
set_option maxHeartbeats 4000000 in
set_option maxRecDepth 100000 in
theorem mt_X3_countNumber (l : Launch) (G : ky_G) (sc : Nat) (fg : Nat) (fc : Nat → Int32) (b : Nat) (va : Nat) (mm : Nat) (n : Nat) (f : Nat → Int32) (ml : Int32) (a1 : Int64) (sz : Nat) (hm : ky_m2 mm) (hf : ky_fit f) (hch : ky_chs fc) (hn : n ≤ mm) : Met l my_X3_countNumber (.code my_X3_countNumber prog_5_method_3_code 3 (some .int) :: ky_B) { frames := 9, cells := 1, slots := 34, locals := 201 } (ky_P G [.ref sc, .long (a1)] (ky_WC G sc fg fc b va mm n f ml) sz (fun _ => True)) (ky_Q (S := Nat × Nat × (Nat → Int32) × Int32 × (Nat → Int32)) G (va_A (ky_WC G sc fg fc b va mm n f ml) sz) (fun v u => v = some (.int (nI (ky_tl a1))) ∧ ky_m2 u.2.1 ∧ (ky_tl a1) ≤ u.2.1 ∧ ky_fit u.2.2.1 ∧ ky_chs u.2.2.2.2) (fun u => ky_WC G sc fg u.2.2.2.2 b u.1 u.2.1 (ky_tl a1) u.2.2.1 u.2.2.2.1) (fun _ _ => True)) (1) (34) (va_A (ky_WC G sc fg fc b va mm n f ml) sz) := by
  refine ky_start (by decide) (Nat.le_of_ble_eq_true rfl) (fun p e s m below meth c F hE A hAe hsz hA hfr hP hD hS hX ls hl => ?_)
  obtain ⟨hx, hb, hml, hown, hr, hlocks, hts⟩ := id F
  have hl : lv_has ls 3 [(0, .ref sc), (1, .long (a1))] := hl
  have hP : va_P G.1 kcl [(sc, .inr (1, [.ref b, .ref fg])), (fg, .inl (G.2.1 1, 19, .inl (fc))), (b, .inr (6, [.ref va, .int (0), .int (ml), .int (nI (n))])), (va, .inl (G.2.1 0, mm, .inl (f)))] s.heap := hP
  have hD : va_D A [(sc, .inr (1, [.ref b, .ref fg])), (fg, .inl (G.2.1 1, 19, .inl (fc))), (b, .inr (6, [.ref va, .int (0), .int (ml), .int (nI (n))])), (va, .inl (G.2.1 0, mm, .inl (f)))] := hD
  refine lv_aload_n hx hb dc_X3_countNumber_0 rfl (lv_at hl 0 rfl) ?_
  refine lv_lload_n hx hb dc_X3_countNumber_1 rfl (lv_at hl 1 rfl) ?_
  refine ky_cVh (As := [.long (a1)]) (wr := []) F (hE.at hfr hS) hfr (mt_X3_writeNumber l G sc fg fc b va mm n f ml a1 s.heap.size hm hf hch hn) kv_X3_20 ⟨⟨rfl, rfl⟩, Nat.le_of_ble_eq_true rfl, Nat.le_of_ble_eq_true rfl⟩ rfl hl.1 rfl (Nat.le_of_ble_eq_true rfl) ⟨Nat.le_of_ble_eq_true rfl, Nat.le_of_ble_eq_true rfl⟩ (va_recv hE.1 hP (ci := 1) (q0 := 0) rfl rfl) trivial hP hD hS hA [0, 1, 2, 3] [] rfl rfl (by decide) (by decide) (by decide) dc_X3_countNumber_2 ?_
  rintro v9 ⟨va_0, m_0, f_0, ml_0, fc_0⟩ H locs ⟨rfl, hm_0, hn_0, hf_0, hc_0⟩ hP hD hS - hz hk9
  have hP : va_P G.1 kcl [(sc, .inr (1, [.ref b, .ref fg])), (fg, .inl (G.2.1 1, 19, .inl (fc_0))), (b, .inr (6, [.ref va_0, .int (0), .int (ml_0), .int (nI (ky_tl a1))])), (va_0, .inl (G.2.1 0, m_0, .inl (f_0)))] H := hP
  have hD : va_D A [(sc, .inr (1, [.ref b, .ref fg])), (fg, .inl (G.2.1 1, 19, .inl (fc_0))), (b, .inr (6, [.ref va_0, .int (0), .int (ml_0), .int (nI (ky_tl a1))])), (va_0, .inl (G.2.1 0, m_0, .inl (f_0)))] := hD
  refine W.widen (k := 1) (n := 34) (by first | exact Nat.le_refl _ | omega) (by first | exact Nat.le_refl _ | omega) ?_
  refine lv_aload_n hx hb dc_X3_countNumber_5 rfl (lv_at hl 0 rfl) ?_
  refine va_get (D := G.1) (ci := 1) (v := .ref b) (C := RX3) (T := TX3) (N := 2) hx hb hts ki_X3 hown hE.1 hP 0 rfl rfl 0 (by decide) (hts _ kw_1_78) (fun _ h9 => h9) rfl dc_X3_countNumber_6 ?_
  refine ky_cVh (As := []) (wr := [(sc, .inr (1, [.ref b, .ref fg])), (fg, .inl (G.2.1 1, 19, .inl (fc_0))), (va_0, .inl (G.2.1 0, m_0, .inl (f_0)))]) F (hE.at hfr hS) hfr (mt_J4_length_8abf5 l G b va_0 ml_0 (nI (ky_tl a1)) H.size ) kv_X3_28 ⟨⟨rfl, rfl⟩, Nat.le_of_ble_eq_true rfl, Nat.le_of_ble_eq_true rfl⟩ rfl hl.1 rfl (Nat.le_of_ble_eq_true rfl) ⟨Nat.le_of_ble_eq_true rfl, Nat.le_of_ble_eq_true rfl⟩ (va_recv hE.1 hP (ci := 6) (q0 := 2) rfl rfl) trivial hP hD hS hA [2] [0, 1, 3] rfl rfl (by decide) (by decide) (by decide) dc_X3_countNumber_9 ?_
  rintro v9 u9 H locs rfl hP hD hS - hz hk9
  have hP : va_P G.1 kcl [(sc, .inr (1, [.ref b, .ref fg])), (fg, .inl (G.2.1 1, 19, .inl (fc_0))), (va_0, .inl (G.2.1 0, m_0, .inl (f_0))), (b, .inr (6, [.ref va_0, .int (0), .int (ml_0), .int (nI (ky_tl a1))]))] H := hP
  have hD : va_D A [(sc, .inr (1, [.ref b, .ref fg])), (fg, .inl (G.2.1 1, 19, .inl (fc_0))), (va_0, .inl (G.2.1 0, m_0, .inl (f_0))), (b, .inr (6, [.ref va_0, .int (0), .int (ml_0), .int (nI (ky_tl a1))]))] := hD
  refine W.widen (k := 1) (n := 34) (by first | exact Nat.le_refl _ | omega) (by first | exact Nat.le_refl _ | omega) ?_
  have hP9 := hP.sub (ws' := [(sc, .inr (1, [.ref b, .ref fg])), (fg, .inl (G.2.1 1, 19, .inl (fc_0))), (b, .inr (6, [.ref va_0, .int (0), .int (ml_0), .int (nI (ky_tl a1))])), (va_0, .inl (G.2.1 0, m_0, .inl (f_0)))]) [0, 1, 3, 2] rfl
  have hD9 := hD.sub (ws' := [(sc, .inr (1, [.ref b, .ref fg])), (fg, .inl (G.2.1 1, 19, .inl (fc_0))), (b, .inr (6, [.ref va_0, .int (0), .int (ml_0), .int (nI (ky_tl a1))])), (va_0, .inl (G.2.1 0, m_0, .inl (f_0)))]) [0, 1, 3, 2] (by decide) rfl
  refine W.widen (k := 1) (n := 34) (Nat.le_of_ble_eq_true rfl) (Nat.le_of_ble_eq_true rfl) ?_
  exact W.iret (v := nI (ky_tl a1)) hx hb hr (fun t ht hW => ⟨⟨_, (va_0, m_0, f_0, ml_0, fc_0), rfl, ⟨rfl, hm_0, hn_0, hf_0, hc_0⟩, by rw [ht]; exact hP9, hD9, trivial⟩, hS.F ht⟩) hS.2.2 dc_X3_countNumber_12
set_option linter.constructorNameAsVariable false in
set_option maxHeartbeats 4000000 in
set_option maxRecDepth 100000 in
theorem mt_X3_tellWhole (l : Launch) (G : ky_G) (sc : Nat) (fg : Nat) (fc : Nat → Int32) (b : Nat) (va : Nat) (mm : Nat) (n : Nat) (f : Nat → Int32) (ml : Int32) (a1 : Int64) (sz : Nat) (hm : ky_m2 mm) (hf : ky_fit f) (hch : ky_chs fc) (hn : n ≤ mm) : Met l my_X3_tellWhole (.code my_X3_tellWhole prog_5_method_4_code 3 (Option.some (Jvm.ClassFile.FieldType.object "java/lang/String")) :: ky_B) { frames := 8, cells := 3, slots := 72, locals := 174 } (ky_P G [.ref sc, .long (a1)] (ky_WC G sc fg fc b va mm n f ml) sz (fun _ => True)) (ky_Q (S := Nat × Nat × (Nat → Int32) × Int32 × (Nat → Int32)) G (va_A (ky_WC G sc fg fc b va mm n f ml) sz) (fun v u => (∃ z : Nat, v = some (.ref z)) ∧ ky_m2 u.2.1 ∧ (0 + ky_szJ a1) ≤ u.2.1 ∧ ky_fit u.2.2.1 ∧ ky_chs u.2.2.2.2) (fun u => ky_WC G sc fg u.2.2.2.2 b u.1 u.2.1 (0 + ky_szJ a1) u.2.2.1 u.2.2.2.1) (fun _ _ => True)) (3) (72) (va_A (ky_WC G sc fg fc b va mm n f ml) sz) := by
  refine ky_start (by decide) (Nat.le_of_ble_eq_true rfl) (fun p e s m below meth c F hE A hAe hsz hA hfr hP hD hS hX ls hl => ?_)
  obtain ⟨hx, hb, hml, hown, hr, hlocks, hts⟩ := id F
  have hl : lv_has ls 3 [(0, .ref sc), (1, .long (a1))] := hl
  have hP : va_P G.1 kcl [(sc, .inr (1, [.ref b, .ref fg])), (fg, .inl (G.2.1 1, 19, .inl (fc))), (b, .inr (6, [.ref va, .int (0), .int (ml), .int (nI (n))])), (va, .inl (G.2.1 0, mm, .inl (f)))] s.heap := hP
  have hD : va_D A [(sc, .inr (1, [.ref b, .ref fg])), (fg, .inl (G.2.1 1, 19, .inl (fc))), (b, .inr (6, [.ref va, .int (0), .int (ml), .int (nI (n))])), (va, .inl (G.2.1 0, mm, .inl (f)))] := hD
  refine lv_aload_n hx hb dc_X3_tellWhole_0 rfl (lv_at hl 0 rfl) ?_
  refine lv_lload_n hx hb dc_X3_tellWhole_1 rfl (lv_at hl 1 rfl) ?_
  refine ky_cVh (As := [.long (a1)]) (wr := []) F (hE.at hfr hS) hfr (mt_X3_writeWhole l G sc fg fc b va mm n f ml a1 s.heap.size hm hf hch hn) kv_X3_32 ⟨⟨rfl, rfl⟩, Nat.le_of_ble_eq_true rfl, Nat.le_of_ble_eq_true rfl⟩ rfl hl.1 rfl (Nat.le_of_ble_eq_true rfl) ⟨Nat.le_of_ble_eq_true rfl, Nat.le_of_ble_eq_true rfl⟩ (va_recv hE.1 hP (ci := 1) (q0 := 0) rfl rfl) trivial hP hD hS hA [0, 1, 2, 3] [] rfl rfl (by decide) (by decide) (by decide) dc_X3_tellWhole_2 ?_
  rintro v9 ⟨va_0, m_0, f_0, ml_0, fc_0⟩ H locs ⟨rfl, hm_0, hn_0, hf_0, hc_0⟩ hP hD hS - hz hk9
  have hP : va_P G.1 kcl [(sc, .inr (1, [.ref b, .ref fg])), (fg, .inl (G.2.1 1, 19, .inl (fc_0))), (b, .inr (6, [.ref va_0, .int (0), .int (ml_0), .int (nI (0 + ky_szJ a1))])), (va_0, .inl (G.2.1 0, m_0, .inl (f_0)))] H := hP
  have hD : va_D A [(sc, .inr (1, [.ref b, .ref fg])), (fg, .inl (G.2.1 1, 19, .inl (fc_0))), (b, .inr (6, [.ref va_0, .int (0), .int (ml_0), .int (nI (0 + ky_szJ a1))])), (va_0, .inl (G.2.1 0, m_0, .inl (f_0)))] := hD
  refine W.widen (k := 1) (n := 34) (by first | exact Nat.le_refl _ | omega) (by first | exact Nat.le_refl _ | omega) ?_
  refine lv_aload_n hx hb dc_X3_tellWhole_5 rfl (lv_at hl 0 rfl) ?_
  refine va_get (D := G.1) (ci := 1) (v := .ref b) (C := RX3) (T := TX3) (N := 2) hx hb hts ki_X3 hown hE.1 hP 0 rfl rfl 0 (by decide) (hts _ kw_1_78) (fun _ h9 => h9) rfl dc_X3_tellWhole_6 ?_
  refine ky_cVh (As := []) (wr := [(sc, .inr (1, [.ref b, .ref fg])), (fg, .inl (G.2.1 1, 19, .inl (fc_0)))]) F (hE.at hfr hS) hfr (mt_J4_toString_0e30d l G b va_0 m_0 (0 + ky_szJ a1) f_0 ml_0 H.size hn_0 (ky_m2.le34 hm_0) hf_0) kv_X3_24 ⟨⟨rfl, rfl⟩, Nat.le_of_ble_eq_true rfl, Nat.le_of_ble_eq_true rfl⟩ rfl hl.1 rfl (Nat.le_of_ble_eq_true rfl) ⟨Nat.le_of_ble_eq_true rfl, Nat.le_of_ble_eq_true rfl⟩ (va_recv hE.1 hP (ci := 6) (q0 := 2) rfl rfl) trivial hP hD hS hA [2, 3] [0, 1] rfl rfl (by decide) (by decide) (by decide) dc_X3_tellWhole_9 ?_
  rintro v9 ⟨z_1, y_1, g_1⟩ H locs ⟨rfl, hg_1⟩ hP hD hS - hz hk9
  have hP : va_P G.1 kcl [(sc, .inr (1, [.ref b, .ref fg])), (fg, .inl (G.2.1 1, 19, .inl (fc_0))), (b, .inr (6, [.ref va_0, .int (0), .int (ml_0), .int (nI (0 + ky_szJ a1))])), (va_0, .inl (G.2.1 0, m_0, .inl (f_0))), (z_1, .inr (7, [.ref y_1, .int (0), .int (0), .int (0)])), (y_1, .inl (G.2.1 0, 0 + ky_szJ a1, .inl (g_1)))] H := hP
  have hD : va_D A [(sc, .inr (1, [.ref b, .ref fg])), (fg, .inl (G.2.1 1, 19, .inl (fc_0))), (b, .inr (6, [.ref va_0, .int (0), .int (ml_0), .int (nI (0 + ky_szJ a1))])), (va_0, .inl (G.2.1 0, m_0, .inl (f_0))), (z_1, .inr (7, [.ref y_1, .int (0), .int (0), .int (0)])), (y_1, .inl (G.2.1 0, 0 + ky_szJ a1, .inl (g_1)))] := hD
  refine W.widen (k := 3) (n := 72) (by first | exact Nat.le_refl _ | omega) (by first | exact Nat.le_refl _ | omega) ?_
  have hP9 := hP.sub (ws' := [(sc, .inr (1, [.ref b, .ref fg])), (fg, .inl (G.2.1 1, 19, .inl (fc_0))), (b, .inr (6, [.ref va_0, .int (0), .int (ml_0), .int (nI (0 + ky_szJ a1))])), (va_0, .inl (G.2.1 0, m_0, .inl (f_0)))]) [0, 1, 2, 3] rfl
  have hD9 := hD.sub (ws' := [(sc, .inr (1, [.ref b, .ref fg])), (fg, .inl (G.2.1 1, 19, .inl (fc_0))), (b, .inr (6, [.ref va_0, .int (0), .int (ml_0), .int (nI (0 + ky_szJ a1))])), (va_0, .inl (G.2.1 0, m_0, .inl (f_0)))]) [0, 1, 2, 3] (by decide) rfl
  refine W.widen (k := 3) (n := 72) (Nat.le_of_ble_eq_true rfl) (Nat.le_of_ble_eq_true rfl) ?_
  exact W.aret (v := .ref z_1) hx hb hr (Or.inl ⟨_, rfl⟩) (Or.inr ⟨_, rfl⟩) (fun t ht hW => ⟨⟨_, (va_0, m_0, f_0, ml_0, fc_0), rfl, ⟨⟨_, rfl⟩, hm_0, hn_0, hf_0, hc_0⟩, by rw [ht]; exact hP9, hD9, trivial⟩, hS.F ht⟩) hS.2.2 dc_X3_tellWhole_12
set_option linter.constructorNameAsVariable false in
set_option maxHeartbeats 4000000 in
set_option maxRecDepth 100000 in
theorem mt_X3_countWhole (l : Launch) (G : ky_G) (sc : Nat) (fg : Nat) (fc : Nat → Int32) (b : Nat) (va : Nat) (mm : Nat) (n : Nat) (f : Nat → Int32) (ml : Int32) (a1 : Int64) (sz : Nat) (hm : ky_m2 mm) (hf : ky_fit f) (hch : ky_chs fc) (hn : n ≤ mm) : Met l my_X3_countWhole (.code my_X3_countWhole prog_5_method_5_code 3 (some .int) :: ky_B) { frames := 8, cells := 1, slots := 34, locals := 174 } (ky_P G [.ref sc, .long (a1)] (ky_WC G sc fg fc b va mm n f ml) sz (fun _ => True)) (ky_Q (S := Nat × Nat × (Nat → Int32) × Int32 × (Nat → Int32)) G (va_A (ky_WC G sc fg fc b va mm n f ml) sz) (fun v u => v = some (.int (nI (0 + ky_szJ a1))) ∧ ky_m2 u.2.1 ∧ (0 + ky_szJ a1) ≤ u.2.1 ∧ ky_fit u.2.2.1 ∧ ky_chs u.2.2.2.2) (fun u => ky_WC G sc fg u.2.2.2.2 b u.1 u.2.1 (0 + ky_szJ a1) u.2.2.1 u.2.2.2.1) (fun _ _ => True)) (1) (34) (va_A (ky_WC G sc fg fc b va mm n f ml) sz) := by
  refine ky_start (by decide) (Nat.le_of_ble_eq_true rfl) (fun p e s m below meth c F hE A hAe hsz hA hfr hP hD hS hX ls hl => ?_)
  obtain ⟨hx, hb, hml, hown, hr, hlocks, hts⟩ := id F
  have hl : lv_has ls 3 [(0, .ref sc), (1, .long (a1))] := hl
  have hP : va_P G.1 kcl [(sc, .inr (1, [.ref b, .ref fg])), (fg, .inl (G.2.1 1, 19, .inl (fc))), (b, .inr (6, [.ref va, .int (0), .int (ml), .int (nI (n))])), (va, .inl (G.2.1 0, mm, .inl (f)))] s.heap := hP
  have hD : va_D A [(sc, .inr (1, [.ref b, .ref fg])), (fg, .inl (G.2.1 1, 19, .inl (fc))), (b, .inr (6, [.ref va, .int (0), .int (ml), .int (nI (n))])), (va, .inl (G.2.1 0, mm, .inl (f)))] := hD
  refine lv_aload_n hx hb dc_X3_countWhole_0 rfl (lv_at hl 0 rfl) ?_
  refine lv_lload_n hx hb dc_X3_countWhole_1 rfl (lv_at hl 1 rfl) ?_
  refine ky_cVh (As := [.long (a1)]) (wr := []) F (hE.at hfr hS) hfr (mt_X3_writeWhole l G sc fg fc b va mm n f ml a1 s.heap.size hm hf hch hn) kv_X3_32 ⟨⟨rfl, rfl⟩, Nat.le_of_ble_eq_true rfl, Nat.le_of_ble_eq_true rfl⟩ rfl hl.1 rfl (Nat.le_of_ble_eq_true rfl) ⟨Nat.le_of_ble_eq_true rfl, Nat.le_of_ble_eq_true rfl⟩ (va_recv hE.1 hP (ci := 1) (q0 := 0) rfl rfl) trivial hP hD hS hA [0, 1, 2, 3] [] rfl rfl (by decide) (by decide) (by decide) dc_X3_countWhole_2 ?_
  rintro v9 ⟨va_0, m_0, f_0, ml_0, fc_0⟩ H locs ⟨rfl, hm_0, hn_0, hf_0, hc_0⟩ hP hD hS - hz hk9
  have hP : va_P G.1 kcl [(sc, .inr (1, [.ref b, .ref fg])), (fg, .inl (G.2.1 1, 19, .inl (fc_0))), (b, .inr (6, [.ref va_0, .int (0), .int (ml_0), .int (nI (0 + ky_szJ a1))])), (va_0, .inl (G.2.1 0, m_0, .inl (f_0)))] H := hP
  have hD : va_D A [(sc, .inr (1, [.ref b, .ref fg])), (fg, .inl (G.2.1 1, 19, .inl (fc_0))), (b, .inr (6, [.ref va_0, .int (0), .int (ml_0), .int (nI (0 + ky_szJ a1))])), (va_0, .inl (G.2.1 0, m_0, .inl (f_0)))] := hD
  refine W.widen (k := 1) (n := 34) (by first | exact Nat.le_refl _ | omega) (by first | exact Nat.le_refl _ | omega) ?_
  refine lv_aload_n hx hb dc_X3_countWhole_5 rfl (lv_at hl 0 rfl) ?_
  refine va_get (D := G.1) (ci := 1) (v := .ref b) (C := RX3) (T := TX3) (N := 2) hx hb hts ki_X3 hown hE.1 hP 0 rfl rfl 0 (by decide) (hts _ kw_1_78) (fun _ h9 => h9) rfl dc_X3_countWhole_6 ?_
  refine ky_cVh (As := []) (wr := [(sc, .inr (1, [.ref b, .ref fg])), (fg, .inl (G.2.1 1, 19, .inl (fc_0))), (va_0, .inl (G.2.1 0, m_0, .inl (f_0)))]) F (hE.at hfr hS) hfr (mt_J4_length_8abf5 l G b va_0 ml_0 (nI (0 + ky_szJ a1)) H.size ) kv_X3_28 ⟨⟨rfl, rfl⟩, Nat.le_of_ble_eq_true rfl, Nat.le_of_ble_eq_true rfl⟩ rfl hl.1 rfl (Nat.le_of_ble_eq_true rfl) ⟨Nat.le_of_ble_eq_true rfl, Nat.le_of_ble_eq_true rfl⟩ (va_recv hE.1 hP (ci := 6) (q0 := 2) rfl rfl) trivial hP hD hS hA [2] [0, 1, 3] rfl rfl (by decide) (by decide) (by decide) dc_X3_countWhole_9 ?_
  rintro v9 u9 H locs rfl hP hD hS - hz hk9
  have hP : va_P G.1 kcl [(sc, .inr (1, [.ref b, .ref fg])), (fg, .inl (G.2.1 1, 19, .inl (fc_0))), (va_0, .inl (G.2.1 0, m_0, .inl (f_0))), (b, .inr (6, [.ref va_0, .int (0), .int (ml_0), .int (nI (0 + ky_szJ a1))]))] H := hP
  have hD : va_D A [(sc, .inr (1, [.ref b, .ref fg])), (fg, .inl (G.2.1 1, 19, .inl (fc_0))), (va_0, .inl (G.2.1 0, m_0, .inl (f_0))), (b, .inr (6, [.ref va_0, .int (0), .int (ml_0), .int (nI (0 + ky_szJ a1))]))] := hD
  refine W.widen (k := 1) (n := 34) (by first | exact Nat.le_refl _ | omega) (by first | exact Nat.le_refl _ | omega) ?_
  have hP9 := hP.sub (ws' := [(sc, .inr (1, [.ref b, .ref fg])), (fg, .inl (G.2.1 1, 19, .inl (fc_0))), (b, .inr (6, [.ref va_0, .int (0), .int (ml_0), .int (nI (0 + ky_szJ a1))])), (va_0, .inl (G.2.1 0, m_0, .inl (f_0)))]) [0, 1, 3, 2] rfl
  have hD9 := hD.sub (ws' := [(sc, .inr (1, [.ref b, .ref fg])), (fg, .inl (G.2.1 1, 19, .inl (fc_0))), (b, .inr (6, [.ref va_0, .int (0), .int (ml_0), .int (nI (0 + ky_szJ a1))])), (va_0, .inl (G.2.1 0, m_0, .inl (f_0)))]) [0, 1, 3, 2] (by decide) rfl
  refine W.widen (k := 1) (n := 34) (Nat.le_of_ble_eq_true rfl) (Nat.le_of_ble_eq_true rfl) ?_
  exact W.iret (v := nI (0 + ky_szJ a1)) hx hb hr (fun t ht hW => ⟨⟨_, (va_0, m_0, f_0, ml_0, fc_0), rfl, ⟨rfl, hm_0, hn_0, hf_0, hc_0⟩, by rw [ht]; exact hP9, hD9, trivial⟩, hS.F ht⟩) hS.2.2 dc_X3_countWhole_12
set_option linter.constructorNameAsVariable false in
set_option maxHeartbeats 4000000 in
set_option maxRecDepth 100000 in
theorem mt_X3_init (l : Launch) (G : ky_G) (x : Nat) (sz : Nat)  : Met l my_X3_init (.code my_X3_init prog_5_method_1_code 1 none :: ky_B) { frames := 3, cells := 3, slots := 39, locals := 53 } (ky_P G [.ref x] ([(x, .inr (1, [.null, .null]))]) sz (fun _ => True)) (ky_Q (S := Nat × Nat × Nat) G (va_A ([(x, .inr (1, [.null, .null]))]) sz) (fun v _ => v = none) (fun u => ky_WC G x u.1 (fun _ => 0) u.2.1 u.2.2 16 0 (fun _ => 0) 0) (fun _ _ => True)) (3) (39) (va_A ([(x, .inr (1, [.null, .null]))]) sz) := by
  refine ky_startI (by decide) (Nat.le_of_ble_eq_true rfl) (fun p e s m below meth c hin F hE A hAe hsz hA hfr hP hD hS hX ls hl => ?_)
  obtain ⟨hx, hb, hml, hown, hr, hlocks, hts⟩ := id F
  have hl : lv_has ls 1 [(0, .ref x)] := hl
  have hP : va_P G.1 kcl [(x, .inr (1, [.null, .null]))] s.heap := hP
  have hD : va_D A [(x, .inr (1, [.null, .null]))] := hD
  refine lv_aload_n hx hb dc_X3_init_0 rfl (lv_at hl 0 rfl) ?_
  refine W.objInit hx hb hown (hts _ kw_1_43) (hts _ kw_1_36) (hts _ kw_1_37) rfl (by rw [hml]; exact hl.1) rfl dc_X3_init_1 (Nat.le_of_ble_eq_true rfl) (Nat.le_of_ble_eq_true rfl) ?_
  refine W.eq (g2 := F0 m 4 ls []) rfl ?_
  refine lv_aload_n hx hb dc_X3_init_4 rfl (lv_at hl 0 rfl) ?_
  refine va_new (ci := 6) (fs := [.null, .int (0), .int (0), .int (0)]) (C := RJ4) (T := TJ4) (N := 4) hx hb hts ki_J4 tyJ4 tyJ4_ok hown (hts _ kw_1_44) (hts _ kw_1_45) (hts _ kw_1_4) hE.1 hP hD hS hA rfl (fun j hj => by rcases (show j = 0 ∨ j = 1 ∨ j = 2 ∨ j = 3 by omega) with rfl | rfl | rfl | rfl <;> rfl) (Nat.le_of_ble_eq_true rfl) (Nat.le_of_ble_eq_true rfl) dc_X3_init_5 (fun q_0 H hP hD hS => ?_)
  have hP : va_P G.1 kcl [(x, .inr (1, [.null, .null])), (q_0, .inr (6, [.null, .int (0), .int (0), .int (0)]))] H := hP
  have hD : va_D A [(x, .inr (1, [.null, .null])), (q_0, .inr (6, [.null, .int (0), .int (0), .int (0)]))] := hD
  refine W.widen (k := 1) (n := 4) (Nat.le_refl _) (Nat.le_refl _) ?_
  refine lv_dup hx hb dc_X3_init_8 rfl ?_
  refine ky_cIh (As := []) (wr := [(x, .inr (1, [.null, .null]))]) F (hE.at hfr hS) hfr (mt_J4_init_da8c8 l G q_0 H.size ) kI_X3_9 ⟨⟨rfl, rfl⟩, Nat.le_of_ble_eq_true rfl, Nat.le_of_ble_eq_true rfl⟩ rfl hl.1 rfl (Nat.le_of_ble_eq_true rfl) ⟨Nat.le_of_ble_eq_true rfl, Nat.le_of_ble_eq_true rfl⟩ trivial hP hD hS hA [1] [0] rfl rfl (by decide) (by decide) (by decide) dc_X3_init_9 ?_
  rintro v9 va_1 H locs rfl hP hD hS - hz hk9
  have hP : va_P G.1 kcl [(x, .inr (1, [.null, .null])), (q_0, .inr (6, [.ref va_1, .int (0), .int (0), .int (nI (0))])), (va_1, .inl (G.2.1 0, 16, .inl (fun _ => 0)))] H := hP
  have hD : va_D A [(x, .inr (1, [.null, .null])), (q_0, .inr (6, [.ref va_1, .int (0), .int (0), .int (nI (0))])), (va_1, .inl (G.2.1 0, 16, .inl (fun _ => 0)))] := hD
  refine W.widen (k := 2) (n := 20) (by first | exact Nat.le_refl _ | omega) (by first | exact Nat.le_refl _ | omega) ?_
  refine va_putF (D := G.1) (ci := 1) (v := .ref q_0) (ty := .object "java/lang/StringBuilder") (C := RX3) (T := TX3) (N := 2) hx hb hts ki_X3 tyX3 tyX3_ok nmX3 hown hE.1 hP hD hS 0 rfl rfl 0 (by decide) (hts _ kw_1_78) (fun _ h9 => h9) rfl hin rfl (by decide +kernel) rfl rfl (Nat.le_of_ble_eq_true rfl) dc_X3_init_12 (fun H locs hP hD hS => ?_)
  have hP : va_P G.1 kcl [(x, .inr (1, [.ref q_0, .null])), (q_0, .inr (6, [.ref va_1, .int (0), .int (0), .int (nI (0))])), (va_1, .inl (G.2.1 0, 16, .inl (fun _ => 0)))] H := hP
  have hD : va_D A [(x, .inr (1, [.ref q_0, .null])), (q_0, .inr (6, [.ref va_1, .int (0), .int (0), .int (nI (0))])), (va_1, .inl (G.2.1 0, 16, .inl (fun _ => 0)))] := hD
  refine lv_aload_n hx hb dc_X3_init_15 rfl (lv_at hl 0 rfl) ?_
  refine lv_bipush (v := 19) hx hb dc_X3_init_16 (by decide) ?_
  refine va_newa (atype := .char) (ty := .char) (N' := 19) (a0 := (19, .inl (fun _ => 0))) hx hb (hts _ kw_1_85) rfl hE.1 hP hD hS hA (fun _ => rfl) (by decide) (by decide) (by decide) (Nat.le_of_ble_eq_true rfl) (Nat.le_of_ble_eq_true rfl) dc_X3_init_18 (fun q_2 cA_2 H hK_2 hP hD hS => ?_)
  have hc_2 : cA_2 = G.2.1 1 := ky_nB 1 hE.1 hK_2 rfl (fun _ h => by cases h)
  subst hc_2
  have hP : va_P G.1 kcl [(x, .inr (1, [.ref q_0, .null])), (q_0, .inr (6, [.ref va_1, .int (0), .int (0), .int (nI (0))])), (va_1, .inl (G.2.1 0, 16, .inl (fun _ => 0))), (q_2, .inl (G.2.1 1, 19, .inl (fun _ => 0)))] H := hP
  have hD : va_D A [(x, .inr (1, [.ref q_0, .null])), (q_0, .inr (6, [.ref va_1, .int (0), .int (0), .int (nI (0))])), (va_1, .inl (G.2.1 0, 16, .inl (fun _ => 0))), (q_2, .inl (G.2.1 1, 19, .inl (fun _ => 0)))] := hD
  refine W.widen (k := 3) (n := 39) (by first | exact Nat.le_refl _ | omega) (by first | exact Nat.le_refl _ | omega) ?_
  refine va_putF (D := G.1) (ci := 1) (v := .ref q_2) (ty := .array .char) (C := RX3) (T := TX3) (N := 2) hx hb hts ki_X3 tyX3 tyX3_ok nmX3 hown hE.1 hP hD hS 0 rfl rfl 1 (by decide) (hts _ kw_1_79) (fun _ h9 => h9) rfl hin rfl (by decide +kernel) rfl rfl (Nat.le_of_ble_eq_true rfl) dc_X3_init_20 (fun H locs hP hD hS => ?_)
  have hP : va_P G.1 kcl [(x, .inr (1, [.ref q_0, .ref q_2])), (q_0, .inr (6, [.ref va_1, .int (0), .int (0), .int (nI (0))])), (va_1, .inl (G.2.1 0, 16, .inl (fun _ => 0))), (q_2, .inl (G.2.1 1, 19, .inl (fun _ => 0)))] H := hP
  have hD : va_D A [(x, .inr (1, [.ref q_0, .ref q_2])), (q_0, .inr (6, [.ref va_1, .int (0), .int (0), .int (nI (0))])), (va_1, .inl (G.2.1 0, 16, .inl (fun _ => 0))), (q_2, .inl (G.2.1 1, 19, .inl (fun _ => 0)))] := hD
  have hP9 := hP.sub (ws' := [(x, .inr (1, [.ref q_0, .ref q_2])), (q_2, .inl (G.2.1 1, 19, .inl (fun _ => 0))), (q_0, .inr (6, [.ref va_1, .int (0), .int (0), .int (nI (0))])), (va_1, .inl (G.2.1 0, 16, .inl (fun _ => 0)))]) [0, 3, 1, 2] rfl
  have hD9 := hD.sub (ws' := [(x, .inr (1, [.ref q_0, .ref q_2])), (q_2, .inl (G.2.1 1, 19, .inl (fun _ => 0))), (q_0, .inr (6, [.ref va_1, .int (0), .int (0), .int (nI (0))])), (va_1, .inl (G.2.1 0, 16, .inl (fun _ => 0)))]) [0, 3, 1, 2] (by decide) rfl
  refine W.widen (k := 3) (n := 39) (Nat.le_of_ble_eq_true rfl) (Nat.le_of_ble_eq_true rfl) ?_
  exact W.vret hx hb hr (fun t ht hW => ⟨⟨_, (q_2, q_0, va_1), rfl, rfl, by rw [ht]; exact hP9, hD9, trivial⟩, hS.F ht⟩) hS.2.2 dc_X3_init_23
