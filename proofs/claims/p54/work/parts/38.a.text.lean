set_option linter.constructorNameAsVariable false in
set_option maxHeartbeats 4000000 in
set_option maxRecDepth 100000 in
theorem mt_J7_checkLength_df160 (l : Launch) (G : ky_G) (n : Nat) (sz : Nat) (hn : n < 2 ^ 20) : Met l my_J7_checkLength_df160 (.code my_J7_checkLength_df160 prog_29_method_131_code 2 none :: ky_B) { frames := 0, cells := 0, slots := 0, locals := 0 } (ky_P G [.int ((0 : Int32)), .int (nI (n))] ([]) sz (fun _ => True)) (ky_Q (S := Unit) G (va_A ([]) sz) (fun v _ => v = none) (fun _ => []) (fun _ _ => True)) (0) (0) (va_A ([]) sz) := by
  refine ky_start (by decide) (Nat.le_of_ble_eq_true rfl) (fun p e s m below meth c F hE A hAe hsz hA hfr hP hD hS hX ls hl => ?_)
  obtain ⟨hx, hb, hml, hown, hr, hlocks, hts⟩ := id F
  have hl : lv_has ls 2 [(0, .int ((0 : Int32))), (1, .int (nI (n)))] := hl
  have hP : va_P G.1 kcl [] s.heap := hP
  have hD : va_D A [] := hD
  refine lv_iload_n hx hb dc_J7_checkLength_df160_0 rfl (lv_at hl 1 rfl) ?_
  refine lv_iload_n hx hb dc_J7_checkLength_df160_1 rfl (lv_at hl 0 rfl) ?_
  refine lv_icmp_ge (tgt := 37) hx hb dc_J7_checkLength_df160_2 (by decide) (fun _ => ?_) (fun c_0 => absurd (nI_pos' (by omega)) c_0)
  have hP9 := hP.sub (ws' := []) [] rfl
  have hD9 := hD.sub (ws' := []) [] (by decide) rfl
  refine W.widen (k := 0) (n := 0) (Nat.le_of_ble_eq_true rfl) (Nat.le_of_ble_eq_true rfl) ?_
  exact W.vret hx hb hr (fun t ht hW => ⟨⟨_, (), rfl, rfl, by rw [ht]; exact hP9, hD9, trivial⟩, hS.F ht⟩) hS.2.2 dc_J7_checkLength_df160_37
set_option linter.constructorNameAsVariable false in
set_option maxHeartbeats 4000000 in
set_option maxRecDepth 100000 in
theorem mt_J7_copyOfRangeByte_39247 (l : Launch) (G : ky_G) (a : Nat) (mm : Nat) (n : Nat) (f : Nat → Int32) (sz : Nat) (hn : n ≤ mm) (hmm : mm ≤ 34) (hf : ky_fit f) : Met l my_J7_copyOfRangeByte_39247 (.code my_J7_copyOfRangeByte_39247 prog_29_method_133_code 5 (Option.some (Jvm.ClassFile.FieldType.array Jvm.ClassFile.FieldType.byte)) :: ky_B) { frames := 1, cells := 1, slots := 34, locals := 40 } (ky_P G [.ref a, .int ((0 : Int32)), .int (nI (n))] ([(a, .inl (G.2.1 0, mm, .inl f))]) sz (fun _ => True)) (ky_Q (S := Nat × (Nat → Int32)) G (va_A ([(a, .inl (G.2.1 0, mm, .inl f))]) sz) (fun v u => v = some (.ref u.1) ∧ ky_fit u.2) (fun u => [(a, .inl (G.2.1 0, mm, .inl f)), (u.1, .inl (G.2.1 0, n, .inl u.2))]) (fun _ _ => True)) (1) (34) (va_A ([(a, .inl (G.2.1 0, mm, .inl f))]) sz) := by
  refine ky_start (by decide) (Nat.le_of_ble_eq_true rfl) (fun p e s m below meth c F hE A hAe hsz hA hfr hP hD hS hX ls hl => ?_)
  obtain ⟨hx, hb, hml, hown, hr, hlocks, hts⟩ := id F
  have hl : lv_has ls 5 [(0, .ref a), (1, .int ((0 : Int32))), (2, .int (nI (n)))] := hl
  have hP : va_P G.1 kcl [(a, .inl (G.2.1 0, mm, .inl (f)))] s.heap := hP
  have hD : va_D A [(a, .inl (G.2.1 0, mm, .inl (f)))] := hD
  refine lv_iload_n hx hb dc_J7_copyOfRangeByte_39247_0 rfl (lv_at hl 1 rfl) ?_
  refine lv_iload_n hx hb dc_J7_copyOfRangeByte_39247_1 rfl (lv_at hl 2 rfl) ?_
  refine ky_cSh (As := [.int ((0 : Int32)), .int (nI (n))]) (wr := [(a, .inl (G.2.1 0, mm, .inl (f)))]) F (hE.at hfr hS) hfr (mt_J7_checkLength_df160 l G n s.heap.size (by omega)) ks_J7_343 ⟨⟨rfl, rfl⟩, Nat.le_of_ble_eq_true rfl, Nat.le_of_ble_eq_true rfl⟩ rfl hl.1 rfl (Nat.le_of_ble_eq_true rfl) ⟨by show (_ : Nat) ≤ 1; omega, by show (_ : Nat) ≤ 34; omega⟩ trivial hP hD hS hA [] [0] rfl rfl (by decide) (by decide) (by decide) dc_J7_copyOfRangeByte_39247_2 ?_
  rintro v9 u9 H locs rfl hP hD hS - hz hk9
  have hP : va_P G.1 kcl [(a, .inl (G.2.1 0, mm, .inl (f)))] H := hP
  have hD : va_D A [(a, .inl (G.2.1 0, mm, .inl (f)))] := hD
  refine W.widen (k := 0) (n := 0) (by first | exact Nat.le_refl _ | omega) (by first | exact Nat.le_refl _ | omega) ?_
  refine lv_iload_n hx hb dc_J7_copyOfRangeByte_39247_5 rfl (lv_at hl 2 rfl) ?_
  refine lv_iload_n hx hb dc_J7_copyOfRangeByte_39247_6 rfl (lv_at hl 1 rfl) ?_
  refine lv_isub hx hb dc_J7_copyOfRangeByte_39247_7 ?_
  rw [show (((nI (n)) - ((0 : Int32))) : Int32) = nI (n) from by simp]
  refine lv_istore_n (lv' := [(3, .int (nI (n))), (0, .ref a), (1, .int ((0 : Int32))), (2, .int (nI (n)))]) hx hb dc_J7_copyOfRangeByte_39247_8 rfl hl (by decide) rfl (fun ls hl => ?_)
  refine lv_iload_n hx hb dc_J7_copyOfRangeByte_39247_9 rfl (lv_at hl 0 rfl) ?_
  refine va_newa (atype := .byte) (ty := .byte) (N' := n) (a0 := (n, .inl (fun _ => 0))) hx hb (hts _ kw_1_77) rfl hE.1 hP hD hS hA (fun _ => rfl) (nI_pos (by omega)) (nI_clamp (by omega)) (by show n * 1 ≤ _; omega) (by show (_ : Nat) ≤ 1; omega) (by show (_ : Nat) ≤ 34; omega) dc_J7_copyOfRangeByte_39247_10 (fun q_1 cA_1 H hK_1 hP hD hS => ?_)
  have hc_1 : cA_1 = G.2.1 0 := ky_nB 0 hE.1 hK_1 rfl (fun _ h => by cases h)
  subst hc_1
  have hP : va_P G.1 kcl [(a, .inl (G.2.1 0, mm, .inl (f))), (q_1, .inl (G.2.1 0, n, .inl (fun _ => 0)))] H := hP
  have hD : va_D A [(a, .inl (G.2.1 0, mm, .inl (f))), (q_1, .inl (G.2.1 0, n, .inl (fun _ => 0)))] := hD
  refine W.widen (k := 1) (n := n) (by first | exact Nat.le_refl _ | omega) (by first | exact Nat.le_refl _ | omega) ?_
  refine lv_astore (lv' := [(4, .ref q_1), (3, .int (nI (n))), (0, .ref a), (1, .int ((0 : Int32))), (2, .int (nI (n)))]) hx hb dc_J7_copyOfRangeByte_39247_12 hl (by decide) rfl (fun ls hl => ?_)
  refine lv_aload_n hx hb dc_J7_copyOfRangeByte_39247_14 rfl (lv_at hl 2 rfl) ?_
  refine lv_iload_n hx hb dc_J7_copyOfRangeByte_39247_15 rfl (lv_at hl 3 rfl) ?_
  refine lv_aload hx hb dc_J7_copyOfRangeByte_39247_16 (lv_at hl 0 rfl) ?_
  refine lv_iconst (v := 0) hx hb dc_J7_copyOfRangeByte_39247_18 (by decide) ?_
  refine lv_aload_n hx hb dc_J7_copyOfRangeByte_39247_19 rfl (lv_at hl 2 rfl) ?_
  refine va_alen hx hb hE.1 hP 0 0 rfl rfl (v := Int32.ofNat (mm)) rfl dc_J7_copyOfRangeByte_39247_20 ?_
  refine lv_iload_n hx hb dc_J7_copyOfRangeByte_39247_21 rfl (lv_at hl 3 rfl) ?_
  refine lv_isub hx hb dc_J7_copyOfRangeByte_39247_22 ?_
  refine lv_iload_n hx hb dc_J7_copyOfRangeByte_39247_23 rfl (lv_at hl 1 rfl) ?_
  refine ky_imin F ⟨kw_1_202, kw_1_203, kw_1_16, kw_1_204⟩ hl.1 (Nat.le_of_ble_eq_true rfl) (Nat.le_of_ble_eq_true rfl) ⟨by show (_ : Nat) ≤ 1; omega, by show (_ : Nat) ≤ 34; omega⟩ dc_J7_copyOfRangeByte_39247_24 ?_
  rw [show ((jimin ((Int32.ofNat (mm)) - ((0 : Int32))) (nI (n))) : Int32) = nI (n) from ky_mn hn (by omega)]
  refine va_copyi hx hb (hml.trans hl.1.symm) hown (hts _ kw_1_205) (hts _ kw_1_207) (hts _ kw_1_206) (hts _ kw_1_23) hE.1 hP hD hS 0 1 0 0 rfl rfl rfl rfl rfl (by decide) (by decide) (nI_pos (by omega)) (ky_cl0 n mm (by omega) hn) (ky_cl0 n n (by omega) (Nat.le_refl _)) (fun i _ => hf _) (Nat.le_of_ble_eq_true rfl) (Nat.le_of_ble_eq_true rfl) dc_J7_copyOfRangeByte_39247_27 (fun H locs hP hD hS => ?_)
  have hP : va_P G.1 kcl [(a, .inl (G.2.1 0, mm, .inl (f))), (q_1, .inl (G.2.1 0, n, .inl (va_cpy (f) (fun _ => 0) ((0 : Int32)).toNatClampNeg ((0 : Int32)).toNatClampNeg (nI (n)).toNatClampNeg)))] H := hP
  have hD : va_D A [(a, .inl (G.2.1 0, mm, .inl (f))), (q_1, .inl (G.2.1 0, n, .inl (va_cpy (f) (fun _ => 0) ((0 : Int32)).toNatClampNeg ((0 : Int32)).toNatClampNeg (nI (n)).toNatClampNeg)))] := hD
  refine lv_aload hx hb dc_J7_copyOfRangeByte_39247_30 (lv_at hl 0 rfl) ?_
  have hP9 := hP.sub (ws' := [(a, .inl (G.2.1 0, mm, .inl (f))), (q_1, .inl (G.2.1 0, n, .inl (va_cpy (f) (fun _ => 0) ((0 : Int32)).toNatClampNeg ((0 : Int32)).toNatClampNeg (nI (n)).toNatClampNeg)))]) [0, 1] rfl
  have hD9 := hD.sub (ws' := [(a, .inl (G.2.1 0, mm, .inl (f))), (q_1, .inl (G.2.1 0, n, .inl (va_cpy (f) (fun _ => 0) ((0 : Int32)).toNatClampNeg ((0 : Int32)).toNatClampNeg (nI (n)).toNatClampNeg)))]) [0, 1] (by decide) rfl
  refine W.widen (k := 1) (n := 34) (by omega) (by omega) ?_
  exact W.aret (v := .ref q_1) hx hb hr (Or.inr ⟨_, rfl⟩) (Or.inr ⟨_, rfl⟩) (fun t ht hW => ⟨⟨_, (q_1, va_cpy (f) (fun _ => 0) ((0 : Int32)).toNatClampNeg ((0 : Int32)).toNatClampNeg (nI (n)).toNatClampNeg), rfl, ⟨rfl, (ky_fitC hf ky_fit0 _ _ _)⟩, by rw [ht]; exact hP9, hD9, trivial⟩, hS.F ht⟩) hS.2.2 dc_J7_copyOfRangeByte_39247_32
set_option linter.constructorNameAsVariable false in
set_option maxHeartbeats 4000000 in
set_option maxRecDepth 100000 in
theorem mt_J7_copyOfRange_39247 (l : Launch) (G : ky_G) (a : Nat) (mm : Nat) (n : Nat) (f : Nat → Int32) (sz : Nat) (hn : n ≤ mm) (hmm : mm ≤ 34) (hf : ky_fit f) : Met l my_J7_copyOfRange_39247 (.code my_J7_copyOfRange_39247 prog_29_method_132_code 3 (Option.some (Jvm.ClassFile.FieldType.array Jvm.ClassFile.FieldType.byte)) :: ky_B) { frames := 2, cells := 1, slots := 34, locals := 64 } (ky_P G [.ref a, .int ((0 : Int32)), .int (nI (n))] ([(a, .inl (G.2.1 0, mm, .inl f))]) sz (fun _ => True)) (ky_Q (S := Nat × (Nat → Int32)) G (va_A ([(a, .inl (G.2.1 0, mm, .inl f))]) sz) (fun v u => v = some (.ref u.1) ∧ ky_fit u.2) (fun u => [(a, .inl (G.2.1 0, mm, .inl f)), (u.1, .inl (G.2.1 0, n, .inl u.2))]) (fun _ _ => True)) (1) (34) (va_A ([(a, .inl (G.2.1 0, mm, .inl f))]) sz) := by
  refine ky_start (by decide) (Nat.le_of_ble_eq_true rfl) (fun p e s m below meth c F hE A hAe hsz hA hfr hP hD hS hX ls hl => ?_)
  obtain ⟨hx, hb, hml, hown, hr, hlocks, hts⟩ := id F
  have hl : lv_has ls 3 [(0, .ref a), (1, .int ((0 : Int32))), (2, .int (nI (n)))] := hl
  have hP : va_P G.1 kcl [(a, .inl (G.2.1 0, mm, .inl (f)))] s.heap := hP
  have hD : va_D A [(a, .inl (G.2.1 0, mm, .inl (f)))] := hD
  refine lv_iload_n hx hb dc_J7_copyOfRange_39247_0 rfl (lv_at hl 1 rfl) ?_
  refine lv_if_ne (tgt := 10) hx hb dc_J7_copyOfRange_39247_1 (by decide) (fun c_0 => absurd c_0 (by decide)) (fun _ => ?_)
  refine lv_iload_n hx hb dc_J7_copyOfRange_39247_4 rfl (lv_at hl 2 rfl) ?_
  refine lv_aload_n hx hb dc_J7_copyOfRange_39247_5 rfl (lv_at hl 0 rfl) ?_
  refine va_alen hx hb hE.1 hP 0 0 rfl rfl (v := Int32.ofNat (mm)) rfl dc_J7_copyOfRange_39247_6 ?_
  refine lv_icmp_eq (tgt := 17) hx hb dc_J7_copyOfRange_39247_7 (by decide) (fun c_1 => ?_) (fun c_1 => ?_)
  · skip
    have en : n = mm := by have := (nI_eq (by omega) (by omega)).mp c_1; exact this
    refine lv_aload_n hx hb dc_J7_copyOfRange_39247_17 rfl (lv_at hl 0 rfl) ?_
    refine va_clone (ad := "[B") (x := (mm, .inl (f))) hx hb (hml.trans hl.1.symm) hown (hts _ kw_1_195) (hts _ kw_1_196) (hts _ kw_1_197) (hts _ kw_1_198) (hts _ kw_1_199) (hE.castN (kc_1 _ (List.mem_of_getElem? (i := 200) rfl))) hE.1 hP hD hS hA 0 0 rfl rfl (ky_nmB hE) (ky_fitA hf) (Nat.le_of_ble_eq_true rfl) (Nat.le_of_ble_eq_true rfl) (by show (_ : Nat) ≤ 1; omega) (by show (_ : Nat) ≤ 34; omega) dc_J7_copyOfRange_39247_18 (fun q_2 H hK_2 hP hD hS => ?_)
    have hP : va_P G.1 kcl [(a, .inl (G.2.1 0, mm, .inl (f))), (q_2, .inl (G.2.1 0, mm, .inl (f)))] H := hP
    have hD : va_D A [(a, .inl (G.2.1 0, mm, .inl (f))), (q_2, .inl (G.2.1 0, mm, .inl (f)))] := hD
    refine W.widen (k := 1) (n := mm) (by first | exact Nat.le_refl _ | omega) (by first | exact Nat.le_refl _ | omega) ?_
    refine va_castA (nm := "[B") hx hb hown (hts _ kw_1_201) hP 1 rfl (ky_nmB hE) dc_J7_copyOfRange_39247_21 ?_
    rw [show ([(a, .inl (G.2.1 0, mm, .inl (f))), (q_2, .inl (G.2.1 0, mm, .inl (f)))] : va_W) = [(a, .inl (G.2.1 0, mm, .inl (f))), (q_2, .inl (G.2.1 0, n, .inl (f)))] by rw [en]] at hP hD
    have hP9 := hP.sub (ws' := [(a, .inl (G.2.1 0, mm, .inl (f))), (q_2, .inl (G.2.1 0, n, .inl (f)))]) [0, 1] rfl
    have hD9 := hD.sub (ws' := [(a, .inl (G.2.1 0, mm, .inl (f))), (q_2, .inl (G.2.1 0, n, .inl (f)))]) [0, 1] (by decide) rfl
    refine W.widen (k := 1) (n := 34) (by omega) (by omega) ?_
    exact W.aret (v := .ref q_2) hx hb hr (Or.inr ⟨_, rfl⟩) (Or.inr ⟨_, rfl⟩) (fun t ht hW => ⟨⟨_, (q_2, f), rfl, ⟨rfl, hf⟩, by rw [ht]; exact hP9, hD9, trivial⟩, hS.F ht⟩) hS.2.2 dc_J7_copyOfRange_39247_24
  · skip
    refine lv_aload_n hx hb dc_J7_copyOfRange_39247_10 rfl (lv_at hl 0 rfl) ?_
    refine lv_iload_n hx hb dc_J7_copyOfRange_39247_11 rfl (lv_at hl 1 rfl) ?_
    refine lv_iload_n hx hb dc_J7_copyOfRange_39247_12 rfl (lv_at hl 2 rfl) ?_
    refine ky_cSh (As := [.ref a, .int ((0 : Int32)), .int (nI (n))]) (wr := []) F (hE.at hfr hS) hfr (mt_J7_copyOfRangeByte_39247 l G a mm n f s.heap.size hn hmm hf) ks_J7_339 ⟨⟨rfl, rfl⟩, Nat.le_of_ble_eq_true rfl, Nat.le_of_ble_eq_true rfl⟩ rfl hl.1 rfl (Nat.le_of_ble_eq_true rfl) ⟨by show (_ : Nat) ≤ 1; omega, by show (_ : Nat) ≤ 34; omega⟩ trivial hP hD hS hA [0] [] rfl rfl (by decide) (by decide) (by decide) dc_J7_copyOfRange_39247_13 ?_
    rintro v9 ⟨y_2, g_2⟩ H locs ⟨rfl, hg_2⟩ hP hD hS - hz hk9
    have hP : va_P G.1 kcl [(a, .inl (G.2.1 0, mm, .inl (f))), (y_2, .inl (G.2.1 0, n, .inl (g_2)))] H := hP
    have hD : va_D A [(a, .inl (G.2.1 0, mm, .inl (f))), (y_2, .inl (G.2.1 0, n, .inl (g_2)))] := hD
    refine W.widen (k := 1) (n := 34) (by first | exact Nat.le_refl _ | omega) (by first | exact Nat.le_refl _ | omega) ?_
    have hP9 := hP.sub (ws' := [(a, .inl (G.2.1 0, mm, .inl (f))), (y_2, .inl (G.2.1 0, n, .inl (g_2)))]) [0, 1] rfl
    have hD9 := hD.sub (ws' := [(a, .inl (G.2.1 0, mm, .inl (f))), (y_2, .inl (G.2.1 0, n, .inl (g_2)))]) [0, 1] (by decide) rfl
    refine W.widen (k := 1) (n := 34) (by omega) (by omega) ?_
    exact W.aret (v := .ref y_2) hx hb hr (Or.inr ⟨_, rfl⟩) (Or.inr ⟨_, rfl⟩) (fun t ht hW => ⟨⟨_, (y_2, g_2), rfl, ⟨rfl, hg_2⟩, by rw [ht]; exact hP9, hD9, trivial⟩, hS.F ht⟩) hS.2.2 dc_J7_copyOfRange_39247_16
set_option linter.constructorNameAsVariable false in
set_option maxHeartbeats 4000000 in
set_option maxRecDepth 100000 in
theorem mt_J0_init_db425 (l : Launch) (G : ky_G) (z : Nat) (b : Nat) (va : Nat) (mm : Nat) (n : Nat) (f : Nat → Int32) (ml : Int32) (sz : Nat) (hn : n ≤ mm) (hmm : mm ≤ 34) (hf : ky_fit f) : Met l my_J0_init_db425 (.code my_J0_init_db425 prog_22_method_150_code 5 none :: ky_B) { frames := 3, cells := 1, slots := 34, locals := 86 } (ky_P G [.ref z, .ref b, .null] ((z, .inr (7, [.null, .int 0, .int 0, .int 0])) :: ky_WT G b va mm n f ml) sz (fun _ => True)) (ky_Q (S := Nat × (Nat → Int32)) G (va_A ((z, .inr (7, [.null, .int 0, .int 0, .int 0])) :: ky_WT G b va mm n f ml) sz) (fun v u => v = none ∧ ky_fit u.2) (fun u => ky_WT G b va mm n f ml ++ [(z, .inr (7, [.ref u.1, .int 0, .int 0, .int 0])), (u.1, .inl (G.2.1 0, n, .inl u.2))]) (fun _ _ => True)) (1) (34) (va_A ((z, .inr (7, [.null, .int 0, .int 0, .int 0])) :: ky_WT G b va mm n f ml) sz) := by
  refine ky_startI (by decide) (Nat.le_of_ble_eq_true rfl) (fun p e s m below meth c hin F hE A hAe hsz hA hfr hP hD hS hX ls hl => ?_)
  obtain ⟨hx, hb, hml, hown, hr, hlocks, hts⟩ := id F
  have hl : lv_has ls 5 [(0, .ref z), (1, .ref b), (2, .null)] := hl
  have hP : va_P G.1 kcl [(z, .inr (7, [.null, .int (0), .int (0), .int (0)])), (b, .inr (6, [.ref va, .int (0), .int (ml), .int (nI (n))])), (va, .inl (G.2.1 0, mm, .inl (f)))] s.heap := hP
  have hD : va_D A [(z, .inr (7, [.null, .int (0), .int (0), .int (0)])), (b, .inr (6, [.ref va, .int (0), .int (ml), .int (nI (n))])), (va, .inl (G.2.1 0, mm, .inl (f)))] := hD
  refine lv_aload_n hx hb dc_J0_init_db425_0 rfl (lv_at hl 0 rfl) ?_
  refine W.objInit hx hb hown (hts _ kw_2_79) (hts _ kw_1_36) (hts _ kw_1_37) rfl (by rw [hml]; exact hl.1) rfl dc_J0_init_db425_1 (Nat.le_of_ble_eq_true rfl) (Nat.le_of_ble_eq_true rfl) ?_
  refine W.eq (g2 := F0 m 4 ls []) rfl ?_
  refine lv_aload_n hx hb dc_J0_init_db425_4 rfl (lv_at hl 1 rfl) ?_
  refine ky_cUh (As := []) (wr := [(z, .inr (7, [.null, .int (0), .int (0), .int (0)])), (va, .inl (G.2.1 0, mm, .inl (f)))]) F (hE.at hfr hS) hfr (mt_J5_getValue_6d5f1 l G b va ml (nI (n)) s.heap.size ) (ku_J0_552.cu hts ⟨⟨rfl, rfl⟩, Nat.le_of_ble_eq_true rfl, Nat.le_of_ble_eq_true rfl⟩) rfl hl.1 rfl (Nat.le_of_ble_eq_true rfl) ⟨by show (_ : Nat) ≤ 1; omega, by show (_ : Nat) ≤ 34; omega⟩ (va_recv hE.1 hP (ci := 6) (q0 := 1) rfl rfl) trivial hP hD hS hA [1] [0, 2] rfl rfl (by decide) (by decide) (by decide) dc_J0_init_db425_5 ?_
  rintro v9 u9 H locs rfl hP hD hS - hz hk9
  have hP : va_P G.1 kcl [(z, .inr (7, [.null, .int (0), .int (0), .int (0)])), (va, .inl (G.2.1 0, mm, .inl (f))), (b, .inr (6, [.ref va, .int (0), .int (ml), .int (nI (n))]))] H := hP
  have hD : va_D A [(z, .inr (7, [.null, .int (0), .int (0), .int (0)])), (va, .inl (G.2.1 0, mm, .inl (f))), (b, .inr (6, [.ref va, .int (0), .int (ml), .int (nI (n))]))] := hD
  refine W.widen (k := 0) (n := 0) (by first | exact Nat.le_refl _ | omega) (by first | exact Nat.le_refl _ | omega) ?_
  refine lv_astore_n (lv' := [(3, .ref va), (0, .ref z), (1, .ref b), (2, .null)]) hx hb dc_J0_init_db425_8 rfl hl (by decide) rfl (fun ls hl => ?_)
  refine lv_aload_n hx hb dc_J0_init_db425_9 rfl (lv_at hl 2 rfl) ?_
  refine ky_cUh (As := []) (wr := [(z, .inr (7, [.null, .int (0), .int (0), .int (0)])), (va, .inl (G.2.1 0, mm, .inl (f)))]) F (hE.at hfr hS) hfr (mt_J4_length_8abf5 l G b va ml (nI (n)) H.size ) (ku_J0_549.cu hts ⟨⟨rfl, rfl⟩, Nat.le_of_ble_eq_true rfl, Nat.le_of_ble_eq_true rfl⟩) rfl hl.1 rfl (Nat.le_of_ble_eq_true rfl) ⟨by show (_ : Nat) ≤ 1; omega, by show (_ : Nat) ≤ 34; omega⟩ (va_recv hE.1 hP (ci := 6) (q0 := 2) rfl rfl) trivial hP hD hS hA [2] [0, 1] rfl rfl (by decide) (by decide) (by decide) dc_J0_init_db425_10 ?_
  rintro v9 u9 H locs rfl hP hD hS - hz hk9
  have hP : va_P G.1 kcl [(z, .inr (7, [.null, .int (0), .int (0), .int (0)])), (va, .inl (G.2.1 0, mm, .inl (f))), (b, .inr (6, [.ref va, .int (0), .int (ml), .int (nI (n))]))] H := hP
  have hD : va_D A [(z, .inr (7, [.null, .int (0), .int (0), .int (0)])), (va, .inl (G.2.1 0, mm, .inl (f))), (b, .inr (6, [.ref va, .int (0), .int (ml), .int (nI (n))]))] := hD
  refine W.widen (k := 0) (n := 0) (by first | exact Nat.le_refl _ | omega) (by first | exact Nat.le_refl _ | omega) ?_
  refine lv_istore (lv' := [(4, .int (nI (n))), (3, .ref va), (0, .ref z), (1, .ref b), (2, .null)]) hx hb dc_J0_init_db425_13 hl (by decide) rfl (fun ls hl => ?_)
  refine lv_aload_n hx hb dc_J0_init_db425_15 rfl (lv_at hl 3 rfl) ?_
  refine ky_cUh (As := []) (wr := [(z, .inr (7, [.null, .int (0), .int (0), .int (0)])), (va, .inl (G.2.1 0, mm, .inl (f)))]) F (hE.at hfr hS) hfr (mt_J5_isLatin1_aae02 l G b va ml (nI (n)) H.size ) (ku_J0_1047.cu hts ⟨⟨rfl, rfl⟩, Nat.le_of_ble_eq_true rfl, Nat.le_of_ble_eq_true rfl⟩) rfl hl.1 rfl (Nat.le_of_ble_eq_true rfl) ⟨by show (_ : Nat) ≤ 1; omega, by show (_ : Nat) ≤ 34; omega⟩ (va_recv hE.1 hP (ci := 6) (q0 := 2) rfl rfl) trivial hP hD hS hA [2] [0, 1] rfl rfl (by decide) (by decide) (by decide) dc_J0_init_db425_16 ?_
  rintro v9 u9 H locs rfl hP hD hS - hz hk9
  have hP : va_P G.1 kcl [(z, .inr (7, [.null, .int (0), .int (0), .int (0)])), (va, .inl (G.2.1 0, mm, .inl (f))), (b, .inr (6, [.ref va, .int (0), .int (ml), .int (nI (n))]))] H := hP
  have hD : va_D A [(z, .inr (7, [.null, .int (0), .int (0), .int (0)])), (va, .inl (G.2.1 0, mm, .inl (f))), (b, .inr (6, [.ref va, .int (0), .int (ml), .int (nI (n))]))] := hD
  refine W.widen (k := 0) (n := 0) (by first | exact Nat.le_refl _ | omega) (by first | exact Nat.le_refl _ | omega) ?_
  refine lv_if_eq (tgt := 41) hx hb dc_J0_init_db425_19 (by decide) (fun c_3 => absurd c_3 (by decide)) (fun _ => ?_)
  refine lv_aload_n hx hb dc_J0_init_db425_22 rfl (lv_at hl 2 rfl) ?_
  refine lv_iconst (v := 0) hx hb dc_J0_init_db425_23 (by decide) ?_
  refine va_putF (D := G.1) (ci := 7) (v := .int ((0 : Int32))) (ty := .byte) (C := RJ0) (T := TJ0) (N := 4) hx hb hts ki_J0 tyJ0 tyJ0_ok nmJ0 hown hE.1 hP hD hS 0 rfl rfl 1 (by decide) (hts _ kw_2_190) (fun _ h9 => h9) rfl hin rfl (by decide +kernel) rfl rfl (Nat.le_of_ble_eq_true rfl) dc_J0_init_db425_24 (fun H locs hP hD hS => ?_)
  have hP : va_P G.1 kcl [(z, .inr (7, [.null, .int ((0 : Int32)), .int (0), .int (0)])), (va, .inl (G.2.1 0, mm, .inl (f))), (b, .inr (6, [.ref va, .int (0), .int (ml), .int (nI (n))]))] H := hP
  have hD : va_D A [(z, .inr (7, [.null, .int ((0 : Int32)), .int (0), .int (0)])), (va, .inl (G.2.1 0, mm, .inl (f))), (b, .inr (6, [.ref va, .int (0), .int (ml), .int (nI (n))]))] := hD
  refine lv_aload_n hx hb dc_J0_init_db425_27 rfl (lv_at hl 2 rfl) ?_
  refine lv_aload_n hx hb dc_J0_init_db425_28 rfl (lv_at hl 1 rfl) ?_
  refine lv_iconst (v := 0) hx hb dc_J0_init_db425_29 (by decide) ?_
  refine lv_iload hx hb dc_J0_init_db425_30 (lv_at hl 0 rfl) ?_
  refine ky_cSh (As := [.ref va, .int ((0 : Int32)), .int (nI (n))]) (wr := [(z, .inr (7, [.null, .int ((0 : Int32)), .int (0), .int (0)])), (b, .inr (6, [.ref va, .int (0), .int (ml), .int (nI (n))]))]) F (hE.at hfr hS) hfr (mt_J7_copyOfRange_39247 l G va mm n f H.size hn hmm hf) ks_J0_54 ⟨⟨rfl, rfl⟩, Nat.le_of_ble_eq_true rfl, Nat.le_of_ble_eq_true rfl⟩ rfl hl.1 rfl (Nat.le_of_ble_eq_true rfl) ⟨by show (_ : Nat) ≤ 1; omega, by show (_ : Nat) ≤ 34; omega⟩ trivial hP hD hS hA [1] [0, 2] rfl rfl (by decide) (by decide) (by decide) dc_J0_init_db425_32 ?_
  rintro v9 ⟨y_4, g_4⟩ H locs ⟨rfl, hg_4⟩ hP hD hS - hz hk9
  have hP : va_P G.1 kcl [(z, .inr (7, [.null, .int ((0 : Int32)), .int (0), .int (0)])), (b, .inr (6, [.ref va, .int (0), .int (ml), .int (nI (n))])), (va, .inl (G.2.1 0, mm, .inl (f))), (y_4, .inl (G.2.1 0, n, .inl (g_4)))] H := hP
  have hD : va_D A [(z, .inr (7, [.null, .int ((0 : Int32)), .int (0), .int (0)])), (b, .inr (6, [.ref va, .int (0), .int (ml), .int (nI (n))])), (va, .inl (G.2.1 0, mm, .inl (f))), (y_4, .inl (G.2.1 0, n, .inl (g_4)))] := hD
  refine W.widen (k := 1) (n := 34) (by first | exact Nat.le_refl _ | omega) (by first | exact Nat.le_refl _ | omega) ?_
  refine va_putF (D := G.1) (ci := 7) (v := .ref y_4) (ty := .array .byte) (C := RJ0) (T := TJ0) (N := 4) hx hb hts ki_J0 tyJ0 tyJ0_ok nmJ0 hown hE.1 hP hD hS 0 rfl rfl 0 (by decide) (hts _ kw_2_189) (fun _ h9 => h9) rfl hin rfl (by decide +kernel) rfl rfl (Nat.le_of_ble_eq_true rfl) dc_J0_init_db425_35 (fun H locs hP hD hS => ?_)
  have hP : va_P G.1 kcl [(z, .inr (7, [.ref y_4, .int ((0 : Int32)), .int (0), .int (0)])), (b, .inr (6, [.ref va, .int (0), .int (ml), .int (nI (n))])), (va, .inl (G.2.1 0, mm, .inl (f))), (y_4, .inl (G.2.1 0, n, .inl (g_4)))] H := hP
  have hD : va_D A [(z, .inr (7, [.ref y_4, .int ((0 : Int32)), .int (0), .int (0)])), (b, .inr (6, [.ref va, .int (0), .int (ml), .int (nI (n))])), (va, .inl (G.2.1 0, mm, .inl (f))), (y_4, .inl (G.2.1 0, n, .inl (g_4)))] := hD
  refine lv_goto (tgt := 97) hx hb dc_J0_init_db425_38 (by decide) ?_
  have hP9 := hP.sub (ws' := [(b, .inr (6, [.ref va, .int (0), .int (ml), .int (nI (n))])), (va, .inl (G.2.1 0, mm, .inl (f))), (z, .inr (7, [.ref y_4, .int ((0 : Int32)), .int (0), .int (0)])), (y_4, .inl (G.2.1 0, n, .inl (g_4)))]) [1, 2, 0, 3] rfl
  have hD9 := hD.sub (ws' := [(b, .inr (6, [.ref va, .int (0), .int (ml), .int (nI (n))])), (va, .inl (G.2.1 0, mm, .inl (f))), (z, .inr (7, [.ref y_4, .int ((0 : Int32)), .int (0), .int (0)])), (y_4, .inl (G.2.1 0, n, .inl (g_4)))]) [1, 2, 0, 3] (by decide) rfl
  refine W.widen (k := 1) (n := 34) (by omega) (by omega) ?_
  exact W.vret hx hb hr (fun t ht hW => ⟨⟨_, (y_4, g_4), rfl, ⟨rfl, hg_4⟩, by rw [ht]; exact hP9, hD9, trivial⟩, hS.F ht⟩) hS.2.2 dc_J0_init_db425_97
set_option linter.constructorNameAsVariable false in
set_option maxHeartbeats 4000000 in
set_option maxRecDepth 100000 in
theorem mt_J0_init_81219 (l : Launch) (G : ky_G) (z : Nat) (b : Nat) (va : Nat) (mm : Nat) (n : Nat) (f : Nat → Int32) (ml : Int32) (sz : Nat) (hn : n ≤ mm) (hmm : mm ≤ 34) (hf : ky_fit f) : Met l my_J0_init_81219 (.code my_J0_init_81219 prog_22_method_53_code 2 none :: ky_B) { frames := 4, cells := 1, slots := 34, locals := 110 } (ky_P G [.ref z, .ref b] ((z, .inr (7, [.null, .int 0, .int 0, .int 0])) :: ky_WT G b va mm n f ml) sz (fun _ => True)) (ky_Q (S := Nat × (Nat → Int32)) G (va_A ((z, .inr (7, [.null, .int 0, .int 0, .int 0])) :: ky_WT G b va mm n f ml) sz) (fun v u => v = none ∧ ky_fit u.2) (fun u => ky_WT G b va mm n f ml ++ [(z, .inr (7, [.ref u.1, .int 0, .int 0, .int 0])), (u.1, .inl (G.2.1 0, n, .inl u.2))]) (fun _ _ => True)) (1) (34) (va_A ((z, .inr (7, [.null, .int 0, .int 0, .int 0])) :: ky_WT G b va mm n f ml) sz) := by
  refine ky_startI (by decide) (Nat.le_of_ble_eq_true rfl) (fun p e s m below meth c hin F hE A hAe hsz hA hfr hP hD hS hX ls hl => ?_)
  obtain ⟨hx, hb, hml, hown, hr, hlocks, hts⟩ := id F
  have hl : lv_has ls 2 [(0, .ref z), (1, .ref b)] := hl
  have hP : va_P G.1 kcl [(z, .inr (7, [.null, .int (0), .int (0), .int (0)])), (b, .inr (6, [.ref va, .int (0), .int (ml), .int (nI (n))])), (va, .inl (G.2.1 0, mm, .inl (f)))] s.heap := hP
  have hD : va_D A [(z, .inr (7, [.null, .int (0), .int (0), .int (0)])), (b, .inr (6, [.ref va, .int (0), .int (ml), .int (nI (n))])), (va, .inl (G.2.1 0, mm, .inl (f)))] := hD
  refine lv_aload_n hx hb dc_J0_init_81219_0 rfl (lv_at hl 0 rfl) ?_
  refine lv_aload_n hx hb dc_J0_init_81219_1 rfl (lv_at hl 1 rfl) ?_
  refine lv_null hx hb dc_J0_init_81219_2 ?_
  refine ky_cIh (As := [.ref b, .null]) (wr := []) F (hE.at hfr hS) hfr (mt_J0_init_db425 l G z b va mm n f ml s.heap.size hn hmm hf) kI_J0_489 ⟨⟨rfl, rfl⟩, Nat.le_of_ble_eq_true rfl, Nat.le_of_ble_eq_true rfl⟩ rfl hl.1 rfl (Nat.le_of_ble_eq_true rfl) ⟨by show (_ : Nat) ≤ 1; omega, by show (_ : Nat) ≤ 34; omega⟩ trivial hP hD hS hA [0, 1, 2] [] rfl rfl (by decide) (by decide) (by decide) dc_J0_init_81219_3 ?_
  rintro v9 ⟨y_0, g_0⟩ H locs ⟨rfl, hg_0⟩ hP hD hS - hz hk9
  have hP : va_P G.1 kcl [(b, .inr (6, [.ref va, .int (0), .int (ml), .int (nI (n))])), (va, .inl (G.2.1 0, mm, .inl (f))), (z, .inr (7, [.ref y_0, .int (0), .int (0), .int (0)])), (y_0, .inl (G.2.1 0, n, .inl (g_0)))] H := hP
  have hD : va_D A [(b, .inr (6, [.ref va, .int (0), .int (ml), .int (nI (n))])), (va, .inl (G.2.1 0, mm, .inl (f))), (z, .inr (7, [.ref y_0, .int (0), .int (0), .int (0)])), (y_0, .inl (G.2.1 0, n, .inl (g_0)))] := hD
  refine W.widen (k := 1) (n := 34) (by first | exact Nat.le_refl _ | omega) (by first | exact Nat.le_refl _ | omega) ?_
  have hP9 := hP.sub (ws' := [(b, .inr (6, [.ref va, .int (0), .int (ml), .int (nI (n))])), (va, .inl (G.2.1 0, mm, .inl (f))), (z, .inr (7, [.ref y_0, .int (0), .int (0), .int (0)])), (y_0, .inl (G.2.1 0, n, .inl (g_0)))]) [0, 1, 2, 3] rfl
  have hD9 := hD.sub (ws' := [(b, .inr (6, [.ref va, .int (0), .int (ml), .int (nI (n))])), (va, .inl (G.2.1 0, mm, .inl (f))), (z, .inr (7, [.ref y_0, .int (0), .int (0), .int (0)])), (y_0, .inl (G.2.1 0, n, .inl (g_0)))]) [0, 1, 2, 3] (by decide) rfl
  refine W.widen (k := 1) (n := 34) (by omega) (by omega) ?_
  exact W.vret hx hb hr (fun t ht hW => ⟨⟨_, (y_0, g_0), rfl, ⟨rfl, hg_0⟩, by rw [ht]; exact hP9, hD9, trivial⟩, hS.F ht⟩) hS.2.2 dc_J0_init_81219_6
set_option linter.constructorNameAsVariable false in
set_option maxHeartbeats 4000000 in
set_option maxRecDepth 100000 in
theorem mt_J4_toString_0e30d (l : Launch) (G : ky_G) (b : Nat) (va : Nat) (mm : Nat) (n : Nat) (f : Nat → Int32) (ml : Int32) (sz : Nat) (hn : n ≤ mm) (hmm : mm ≤ 34) (hf : ky_fit f) : Met l my_J4_toString_0e30d (.code my_J4_toString_0e30d prog_23_method_42_code 1 (Option.some (Jvm.ClassFile.FieldType.object "java/lang/String")) :: ky_B) { frames := 5, cells := 2, slots := 38, locals := 131 } (ky_P G [.ref b] (ky_WT G b va mm n f ml) sz (fun _ => True)) (ky_Q (S := Nat × Nat × (Nat → Int32)) G (va_A (ky_WT G b va mm n f ml) sz) (fun v u => v = some (.ref u.1) ∧ ky_fit u.2.2) (fun u => ky_WT G b va mm n f ml ++ [(u.1, .inr (7, [.ref u.2.1, .int 0, .int 0, .int 0])), (u.2.1, .inl (G.2.1 0, n, .inl u.2.2))]) (fun _ _ => True)) (2) (38) (va_A (ky_WT G b va mm n f ml) sz) := by
  refine ky_start (by decide) (Nat.le_of_ble_eq_true rfl) (fun p e s m below meth c F hE A hAe hsz hA hfr hP hD hS hX ls hl => ?_)
  obtain ⟨hx, hb, hml, hown, hr, hlocks, hts⟩ := id F
  have hl : lv_has ls 1 [(0, .ref b)] := hl
  have hP : va_P G.1 kcl [(b, .inr (6, [.ref va, .int (0), .int (ml), .int (nI (n))])), (va, .inl (G.2.1 0, mm, .inl (f)))] s.heap := hP
  have hD : va_D A [(b, .inr (6, [.ref va, .int (0), .int (ml), .int (nI (n))])), (va, .inl (G.2.1 0, mm, .inl (f)))] := hD
  refine va_new (ci := 7) (fs := [.null, .int (0), .int (0), .int (0)]) (C := RJ0) (T := TJ0) (N := 4) hx hb hts ki_J0 tyJ0 tyJ0_ok hown (hts _ kw_2_71) (hts _ kw_2_72) (hts _ kw_1_5) hE.1 hP hD hS hA rfl (fun j hj => by rcases (show j = 0 ∨ j = 1 ∨ j = 2 ∨ j = 3 by omega) with rfl | rfl | rfl | rfl <;> rfl) (Nat.le_of_ble_eq_true rfl) (Nat.le_of_ble_eq_true rfl) dc_J4_toString_0e30d_0 (fun q_0 H hP hD hS => ?_)
  have hP : va_P G.1 kcl [(b, .inr (6, [.ref va, .int (0), .int (ml), .int (nI (n))])), (va, .inl (G.2.1 0, mm, .inl (f))), (q_0, .inr (7, [.null, .int (0), .int (0), .int (0)]))] H := hP
  have hD : va_D A [(b, .inr (6, [.ref va, .int (0), .int (ml), .int (nI (n))])), (va, .inl (G.2.1 0, mm, .inl (f))), (q_0, .inr (7, [.null, .int (0), .int (0), .int (0)]))] := hD
  refine W.widen (k := 1) (n := 4) (Nat.le_refl _) (Nat.le_refl _) ?_
  refine lv_dup hx hb dc_J4_toString_0e30d_3 rfl ?_
  refine lv_aload_n hx hb dc_J4_toString_0e30d_4 rfl (lv_at hl 0 rfl) ?_
  refine ky_cIh (As := [.ref b]) (wr := []) F (hE.at hfr hS) hfr (mt_J0_init_81219 l G q_0 b va mm n f ml H.size hn hmm hf) kI_J4_137 ⟨⟨rfl, rfl⟩, Nat.le_of_ble_eq_true rfl, Nat.le_of_ble_eq_true rfl⟩ rfl hl.1 rfl (Nat.le_of_ble_eq_true rfl) ⟨by show (_ : Nat) ≤ 2; omega, by show (_ : Nat) ≤ 38; omega⟩ trivial hP hD hS hA [2, 0, 1] [] rfl rfl (by decide) (by decide) (by decide) dc_J4_toString_0e30d_5 ?_
  rintro v9 ⟨y_1, g_1⟩ H locs ⟨rfl, hg_1⟩ hP hD hS - hz hk9
  have hP : va_P G.1 kcl [(b, .inr (6, [.ref va, .int (0), .int (ml), .int (nI (n))])), (va, .inl (G.2.1 0, mm, .inl (f))), (q_0, .inr (7, [.ref y_1, .int (0), .int (0), .int (0)])), (y_1, .inl (G.2.1 0, n, .inl (g_1)))] H := hP
  have hD : va_D A [(b, .inr (6, [.ref va, .int (0), .int (ml), .int (nI (n))])), (va, .inl (G.2.1 0, mm, .inl (f))), (q_0, .inr (7, [.ref y_1, .int (0), .int (0), .int (0)])), (y_1, .inl (G.2.1 0, n, .inl (g_1)))] := hD
  refine W.widen (k := 2) (n := 38) (by first | exact Nat.le_refl _ | omega) (by first | exact Nat.le_refl _ | omega) ?_
  have hP9 := hP.sub (ws' := [(b, .inr (6, [.ref va, .int (0), .int (ml), .int (nI (n))])), (va, .inl (G.2.1 0, mm, .inl (f))), (q_0, .inr (7, [.ref y_1, .int (0), .int (0), .int (0)])), (y_1, .inl (G.2.1 0, n, .inl (g_1)))]) [0, 1, 2, 3] rfl
  have hD9 := hD.sub (ws' := [(b, .inr (6, [.ref va, .int (0), .int (ml), .int (nI (n))])), (va, .inl (G.2.1 0, mm, .inl (f))), (q_0, .inr (7, [.ref y_1, .int (0), .int (0), .int (0)])), (y_1, .inl (G.2.1 0, n, .inl (g_1)))]) [0, 1, 2, 3] (by decide) rfl
  refine W.widen (k := 2) (n := 38) (by omega) (by omega) ?_
  exact W.aret (v := .ref q_0) hx hb hr (Or.inl ⟨_, rfl⟩) (Or.inr ⟨_, rfl⟩) (fun t ht hW => ⟨⟨_, (q_0, y_1, g_1), rfl, ⟨rfl, hg_1⟩, by rw [ht]; exact hP9, hD9, trivial⟩, hS.F ht⟩) hS.2.2 dc_J4_toString_0e30d_8
