section KYLC
variable {p : Program} {l : Launch} {e : Env} {s : State} {m : MethodId} {below : List Frame} {meth : Method} {c : Code} {H : Heap} {locs : List Loc} {cells slots : Nat} {Q : State → Prop} {ls : Array Slot} {A : Nat → Prop} {G : ky_G} {b L : Nat} {xs : Nat → Int32}
variable {x cs sc pf fg bb tk o mo ms : Nat} {r : Nat → Nat} {u : ky_BS} {t : ky_SV} {g : Nat → Nat → Int64} {nn : Int64} {sv : Value} {w : ky_MV} {f : Nat → Option Nat}
set_option linter.constructorNameAsVariable false in
set_option maxHeartbeats 4000000 in
set_option maxRecDepth 100000 in
theorem lc_40 (hl9 : l.stackTraces = false) (F : ky_F p s m meth c "ExactdoublesLaw" code 7 ret #[Value.ref b]) (hE : ky_E G s) (hfr : ∀ q, A q → ky_fr G q) (hA : ∀ q, s.heap.size ≤ q → A q)
    (hXX : va_X b L xs s s.heap) (hbl : b < s.heap.size) (hbA : ¬ A b) {i : Int32} (h1 : vp_in ((i) + ((1 : Int32))) L) (h2 : vp_in ((i) + ((2 : Int32))) L) (h3 : vp_in ((i) + ((3 : Int32))) L) (hl : lv_has ls 7 [(0, .ref b), (1, .ref x), (2, .ref mo), (3, .ref o), (4, .int (i))])
    (hsk : ky_sok t) (hsi : ky_SI u w) (hP : va_P G.1 kcl (ky_LW G x cs sc pf fg bb tk o mo ms r u t g nn sv w f) H) (hD : va_D A (ky_LW G x cs sc pf fg bb tk o mo ms r u t g nn sv w f)) (hS : va_S A s.heap H locs) (hIT : ky_IT G mo ms (fun _ => False) f w.2.2.2.2 H) (hcc : cells + 544 ≤ 601024) (hss : slots + 12088 ≤ 7293034)
    (KK : ∀ (u : ky_BS) (t : ky_SV) (g : Nat → Nat → Int64) (nn : Int64) (sv : Value) (w : ky_MV) (f : Nat → Option Nat) (H : Heap) (locs : List Loc) (ls : Array Slot), ky_sok t → ky_SI u w → lv_has ls 7 [(0, .ref b), (1, .ref x), (2, .ref mo), (3, .ref o), (4, .int (i))] → va_P G.1 kcl (ky_LW G x cs sc pf fg bb tk o mo ms r u t g nn sv w f) H → va_D A (ky_LW G x cs sc pf fg bb tk o mo ms r u t g nn sv w f) → va_S A s.heap H locs → ky_IT G mo ms (fun _ => False) f w.2.2.2.2 H →
      W p l e room_1 s m #[Value.ref b] below meth c H locs (cells + 544) (slots + 12088) Q (F0 m 2301 ls [])) : W p l e room_1 s m #[Value.ref b] below meth c H locs cells slots Q (F0 m 1960 ls []) := by
  obtain ⟨hx, hb, hml, hown, hr, hlocks, hts⟩ := id F
  refine lv_aload_n hx hb dc_L_law_1960 rfl (lv_at hl 1 rfl) ?_
  refine lv_aload_n hx hb dc_L_law_1961 rfl (lv_at hl 0 rfl) ?_
  refine lv_iload hx hb dc_L_law_1962 (lv_at hl 4 rfl) ?_
  refine lv_iconst (v := 1) hx hb dc_L_law_1964 (by decide) ?_
  refine lv_iadd hx hb dc_L_law_1965 ?_
  refine va_sld hx hb hXX hbl hbA hS h1 dc_L_law_1966 ?_
  generalize hy1 : xs (((i) + ((1 : Int32)))).toNatClampNeg = y1
  refine lv_aload_n hx hb dc_L_law_1967 rfl (lv_at hl 3 rfl) ?_
  refine cl_txt (As := [.ref x, .int (y1), .ref o]) F hE hfr hA (mt_L_floorOf l hl9 G x cs sc pf u fg bb t o nn sv (y1) H.size hsk) kH_L_313 ⟨⟨rfl, rfl⟩, Nat.le_of_ble_eq_true rfl, Nat.le_of_ble_eq_true rfl⟩ rfl hl.1 rfl (Nat.le_of_ble_eq_true rfl) ⟨by show (_ : Nat) ≤ 601024; omega, by show (_ : Nat) ≤ 7293034; omega⟩ hP hD hS hIT dc_L_law_1968 ?_
  rintro v9 ⟨t_0, s_0⟩ H locs ⟨⟨j_0, rfl⟩, hk_0⟩ hP hD hS hIT
  have hP : va_P G.1 kcl (ky_LW G x cs sc pf fg bb tk o mo ms r u t_0 g nn s_0 w f) H := hP
  have hD : va_D A (ky_LW G x cs sc pf fg bb tk o mo ms r u t_0 g nn s_0 w f) := hD
  refine W.widen (k := cells + 4) (n := slots + 78) (by omega) (by omega) ?_
  refine lv_istore (lv' := [(5, .int (j_0)), (0, .ref b), (1, .ref x), (2, .ref mo), (3, .ref o), (4, .int (i))]) hx hb dc_L_law_1971 hl (by decide) rfl (fun ls hl => ?_)
  refine lv_aload_n hx hb dc_L_law_1973 rfl (lv_at hl 3 rfl) ?_
  refine lv_aload_n hx hb dc_L_law_1974 rfl (lv_at hl 1 rfl) ?_
  refine lv_iload hx hb dc_L_law_1975 (lv_at hl 5 rfl) ?_
  refine lv_iconst (v := 1) hx hb dc_L_law_1977 (by decide) ?_
  refine lv_iadd hx hb dc_L_law_1978 ?_
  refine va_sld hx hb hXX hbl hbA hS h1 dc_L_law_1979 ?_
  rw [hy1]
  refine cl_mr (As := [.int (y1)]) F hE hfr hA (mt_X9_floorOf l G mo ms (fun _ => False) w f (y1) H.size) kv_L_315 ⟨⟨rfl, rfl⟩, Nat.le_of_ble_eq_true rfl, Nat.le_of_ble_eq_true rfl⟩ rfl hl.1 rfl (Nat.le_of_ble_eq_true rfl) ⟨by show (_ : Nat) ≤ 601024; omega, by show (_ : Nat) ≤ 7293034; omega⟩ hP hD hS hIT rfl dc_L_law_1980 ?_
  rintro v9 q_1 H locs ⟨z_1, rfl⟩ hP hD hS hIT
  have hP : va_P G.1 kcl (ky_LW G x cs sc pf fg bb tk o mo ms r u t_0 g nn s_0 (q_1, w.2) f) H := hP
  have hD : va_D A (ky_LW G x cs sc pf fg bb tk o mo ms r u t_0 g nn s_0 (q_1, w.2) f) := hD
  refine W.widen (k := cells + 13) (n := slots + 274) (by omega) (by omega) ?_
  refine lv_astore (lv' := [(6, .ref z_1), (5, .int (j_0)), (0, .ref b), (1, .ref x), (2, .ref mo), (3, .ref o), (4, .int (i))]) hx hb dc_L_law_1983 hl (by decide) rfl (fun ls hl => ?_)
  refine lv_goto (tgt := 2301) hx hb dc_L_law_1985 (by decide) ?_
  refine W.widen (k := cells + 544) (n := slots + 12088) (by omega) (by omega) ?_
  exact KK _ _ _ _ _ _ _ _ _ _ hk_0 (si_thr q_1 hsi) (lv_sub hl [2, 3, 4, 5, 6] rfl) hP hD hS hIT
set_option linter.constructorNameAsVariable false in
set_option maxHeartbeats 4000000 in
set_option maxRecDepth 100000 in
theorem lc_41 (hl9 : l.stackTraces = false) (F : ky_F p s m meth c "ExactdoublesLaw" code 7 ret #[Value.ref b]) (hE : ky_E G s) (hfr : ∀ q, A q → ky_fr G q) (hA : ∀ q, s.heap.size ≤ q → A q)
    (hXX : va_X b L xs s s.heap) (hbl : b < s.heap.size) (hbA : ¬ A b) {i : Int32} (h1 : vp_in ((i) + ((1 : Int32))) L) (h2 : vp_in ((i) + ((2 : Int32))) L) (h3 : vp_in ((i) + ((3 : Int32))) L) (hl : lv_has ls 7 [(0, .ref b), (1, .ref x), (2, .ref mo), (3, .ref o), (4, .int (i))])
    (hsk : ky_sok t) (hsi : ky_SI u w) (hP : va_P G.1 kcl (ky_LW G x cs sc pf fg bb tk o mo ms r u t g nn sv w f) H) (hD : va_D A (ky_LW G x cs sc pf fg bb tk o mo ms r u t g nn sv w f)) (hS : va_S A s.heap H locs) (hIT : ky_IT G mo ms (fun _ => False) f w.2.2.2.2 H) (hcc : cells + 544 ≤ 601024) (hss : slots + 12088 ≤ 7293034)
    (KK : ∀ (u : ky_BS) (t : ky_SV) (g : Nat → Nat → Int64) (nn : Int64) (sv : Value) (w : ky_MV) (f : Nat → Option Nat) (H : Heap) (locs : List Loc) (ls : Array Slot), ky_sok t → ky_SI u w → lv_has ls 7 [(0, .ref b), (1, .ref x), (2, .ref mo), (3, .ref o), (4, .int (i))] → va_P G.1 kcl (ky_LW G x cs sc pf fg bb tk o mo ms r u t g nn sv w f) H → va_D A (ky_LW G x cs sc pf fg bb tk o mo ms r u t g nn sv w f) → va_S A s.heap H locs → ky_IT G mo ms (fun _ => False) f w.2.2.2.2 H →
      W p l e room_1 s m #[Value.ref b] below meth c H locs (cells + 544) (slots + 12088) Q (F0 m 2301 ls [])) : W p l e room_1 s m #[Value.ref b] below meth c H locs cells slots Q (F0 m 1988 ls []) := by
  obtain ⟨hx, hb, hml, hown, hr, hlocks, hts⟩ := id F
  refine lv_aload_n hx hb dc_L_law_1988 rfl (lv_at hl 1 rfl) ?_
  refine lv_aload_n hx hb dc_L_law_1989 rfl (lv_at hl 0 rfl) ?_
  refine lv_iload hx hb dc_L_law_1990 (lv_at hl 4 rfl) ?_
  refine lv_iconst (v := 1) hx hb dc_L_law_1992 (by decide) ?_
  refine lv_iadd hx hb dc_L_law_1993 ?_
  refine va_sld hx hb hXX hbl hbA hS h1 dc_L_law_1994 ?_
  generalize hy1 : xs (((i) + ((1 : Int32)))).toNatClampNeg = y1
  refine lv_aload_n hx hb dc_L_law_1995 rfl (lv_at hl 3 rfl) ?_
  refine cl_txt (As := [.ref x, .int (y1), .ref o]) F hE hfr hA (mt_L_ceilOf l hl9 G x cs sc pf u fg bb t o nn sv (y1) H.size hsk) kH_L_316 ⟨⟨rfl, rfl⟩, Nat.le_of_ble_eq_true rfl, Nat.le_of_ble_eq_true rfl⟩ rfl hl.1 rfl (Nat.le_of_ble_eq_true rfl) ⟨by show (_ : Nat) ≤ 601024; omega, by show (_ : Nat) ≤ 7293034; omega⟩ hP hD hS hIT dc_L_law_1996 ?_
  rintro v9 ⟨t_0, s_0⟩ H locs ⟨⟨j_0, rfl⟩, hk_0⟩ hP hD hS hIT
  have hP : va_P G.1 kcl (ky_LW G x cs sc pf fg bb tk o mo ms r u t_0 g nn s_0 w f) H := hP
  have hD : va_D A (ky_LW G x cs sc pf fg bb tk o mo ms r u t_0 g nn s_0 w f) := hD
  refine W.widen (k := cells + 4) (n := slots + 78) (by omega) (by omega) ?_
  refine lv_istore (lv' := [(5, .int (j_0)), (0, .ref b), (1, .ref x), (2, .ref mo), (3, .ref o), (4, .int (i))]) hx hb dc_L_law_1999 hl (by decide) rfl (fun ls hl => ?_)
  refine lv_aload_n hx hb dc_L_law_2001 rfl (lv_at hl 3 rfl) ?_
  refine lv_aload_n hx hb dc_L_law_2002 rfl (lv_at hl 1 rfl) ?_
  refine lv_iload hx hb dc_L_law_2003 (lv_at hl 5 rfl) ?_
  refine lv_iconst (v := 1) hx hb dc_L_law_2005 (by decide) ?_
  refine lv_iadd hx hb dc_L_law_2006 ?_
  refine va_sld hx hb hXX hbl hbA hS h1 dc_L_law_2007 ?_
  rw [hy1]
  refine cl_mr (As := [.int (y1)]) F hE hfr hA (mt_X9_ceilOf l G mo ms (fun _ => False) w f (y1) H.size) kv_L_318 ⟨⟨rfl, rfl⟩, Nat.le_of_ble_eq_true rfl, Nat.le_of_ble_eq_true rfl⟩ rfl hl.1 rfl (Nat.le_of_ble_eq_true rfl) ⟨by show (_ : Nat) ≤ 601024; omega, by show (_ : Nat) ≤ 7293034; omega⟩ hP hD hS hIT rfl dc_L_law_2008 ?_
  rintro v9 q_1 H locs ⟨z_1, rfl⟩ hP hD hS hIT
  have hP : va_P G.1 kcl (ky_LW G x cs sc pf fg bb tk o mo ms r u t_0 g nn s_0 (q_1, w.2) f) H := hP
  have hD : va_D A (ky_LW G x cs sc pf fg bb tk o mo ms r u t_0 g nn s_0 (q_1, w.2) f) := hD
  refine W.widen (k := cells + 13) (n := slots + 274) (by omega) (by omega) ?_
  refine lv_astore (lv' := [(6, .ref z_1), (5, .int (j_0)), (0, .ref b), (1, .ref x), (2, .ref mo), (3, .ref o), (4, .int (i))]) hx hb dc_L_law_2011 hl (by decide) rfl (fun ls hl => ?_)
  refine lv_goto (tgt := 2301) hx hb dc_L_law_2013 (by decide) ?_
  refine W.widen (k := cells + 544) (n := slots + 12088) (by omega) (by omega) ?_
  exact KK _ _ _ _ _ _ _ _ _ _ hk_0 (si_thr q_1 hsi) (lv_sub hl [2, 3, 4, 5, 6] rfl) hP hD hS hIT
set_option linter.constructorNameAsVariable false in
set_option maxHeartbeats 4000000 in
set_option maxRecDepth 100000 in
theorem lc_42 (hl9 : l.stackTraces = false) (F : ky_F p s m meth c "ExactdoublesLaw" code 7 ret #[Value.ref b]) (hE : ky_E G s) (hfr : ∀ q, A q → ky_fr G q) (hA : ∀ q, s.heap.size ≤ q → A q)
    (hXX : va_X b L xs s s.heap) (hbl : b < s.heap.size) (hbA : ¬ A b) {i : Int32} (h1 : vp_in ((i) + ((1 : Int32))) L) (h2 : vp_in ((i) + ((2 : Int32))) L) (h3 : vp_in ((i) + ((3 : Int32))) L) (hl : lv_has ls 7 [(0, .ref b), (1, .ref x), (2, .ref mo), (3, .ref o), (4, .int (i))])
    (hsk : ky_sok t) (hsi : ky_SI u w) (hP : va_P G.1 kcl (ky_LW G x cs sc pf fg bb tk o mo ms r u t g nn sv w f) H) (hD : va_D A (ky_LW G x cs sc pf fg bb tk o mo ms r u t g nn sv w f)) (hS : va_S A s.heap H locs) (hIT : ky_IT G mo ms (fun _ => False) f w.2.2.2.2 H) (hcc : cells + 544 ≤ 601024) (hss : slots + 12088 ≤ 7293034)
    (KK : ∀ (u : ky_BS) (t : ky_SV) (g : Nat → Nat → Int64) (nn : Int64) (sv : Value) (w : ky_MV) (f : Nat → Option Nat) (H : Heap) (locs : List Loc) (ls : Array Slot), ky_sok t → ky_SI u w → lv_has ls 7 [(0, .ref b), (1, .ref x), (2, .ref mo), (3, .ref o), (4, .int (i))] → va_P G.1 kcl (ky_LW G x cs sc pf fg bb tk o mo ms r u t g nn sv w f) H → va_D A (ky_LW G x cs sc pf fg bb tk o mo ms r u t g nn sv w f) → va_S A s.heap H locs → ky_IT G mo ms (fun _ => False) f w.2.2.2.2 H →
      W p l e room_1 s m #[Value.ref b] below meth c H locs (cells + 544) (slots + 12088) Q (F0 m 2301 ls [])) : W p l e room_1 s m #[Value.ref b] below meth c H locs cells slots Q (F0 m 2016 ls []) := by
  obtain ⟨hx, hb, hml, hown, hr, hlocks, hts⟩ := id F
  refine lv_aload_n hx hb dc_L_law_2016 rfl (lv_at hl 1 rfl) ?_
  refine lv_aload_n hx hb dc_L_law_2017 rfl (lv_at hl 0 rfl) ?_
  refine lv_iload hx hb dc_L_law_2018 (lv_at hl 4 rfl) ?_
  refine lv_iconst (v := 1) hx hb dc_L_law_2020 (by decide) ?_
  refine lv_iadd hx hb dc_L_law_2021 ?_
  refine va_sld hx hb hXX hbl hbA hS h1 dc_L_law_2022 ?_
  generalize hy1 : xs (((i) + ((1 : Int32)))).toNatClampNeg = y1
  refine lv_aload_n hx hb dc_L_law_2023 rfl (lv_at hl 3 rfl) ?_
  refine cl_txt (As := [.ref x, .int (y1), .ref o]) F hE hfr hA (mt_L_rintOf l hl9 G x cs sc pf u fg bb t o nn sv (y1) H.size hsk) kH_L_319 ⟨⟨rfl, rfl⟩, Nat.le_of_ble_eq_true rfl, Nat.le_of_ble_eq_true rfl⟩ rfl hl.1 rfl (Nat.le_of_ble_eq_true rfl) ⟨by show (_ : Nat) ≤ 601024; omega, by show (_ : Nat) ≤ 7293034; omega⟩ hP hD hS hIT dc_L_law_2024 ?_
  rintro v9 ⟨t_0, s_0⟩ H locs ⟨⟨j_0, rfl⟩, hk_0⟩ hP hD hS hIT
  have hP : va_P G.1 kcl (ky_LW G x cs sc pf fg bb tk o mo ms r u t_0 g nn s_0 w f) H := hP
  have hD : va_D A (ky_LW G x cs sc pf fg bb tk o mo ms r u t_0 g nn s_0 w f) := hD
  refine W.widen (k := cells + 4) (n := slots + 78) (by omega) (by omega) ?_
  refine lv_istore (lv' := [(5, .int (j_0)), (0, .ref b), (1, .ref x), (2, .ref mo), (3, .ref o), (4, .int (i))]) hx hb dc_L_law_2027 hl (by decide) rfl (fun ls hl => ?_)
  refine lv_aload_n hx hb dc_L_law_2029 rfl (lv_at hl 3 rfl) ?_
  refine lv_aload_n hx hb dc_L_law_2030 rfl (lv_at hl 1 rfl) ?_
  refine lv_iload hx hb dc_L_law_2031 (lv_at hl 5 rfl) ?_
  refine lv_iconst (v := 1) hx hb dc_L_law_2033 (by decide) ?_
  refine lv_iadd hx hb dc_L_law_2034 ?_
  refine va_sld hx hb hXX hbl hbA hS h1 dc_L_law_2035 ?_
  rw [hy1]
  refine cl_mr (As := [.int (y1)]) F hE hfr hA (mt_X9_rintOf l G mo ms (fun _ => False) w f (y1) H.size) kv_L_321 ⟨⟨rfl, rfl⟩, Nat.le_of_ble_eq_true rfl, Nat.le_of_ble_eq_true rfl⟩ rfl hl.1 rfl (Nat.le_of_ble_eq_true rfl) ⟨by show (_ : Nat) ≤ 601024; omega, by show (_ : Nat) ≤ 7293034; omega⟩ hP hD hS hIT rfl dc_L_law_2036 ?_
  rintro v9 q_1 H locs ⟨z_1, rfl⟩ hP hD hS hIT
  have hP : va_P G.1 kcl (ky_LW G x cs sc pf fg bb tk o mo ms r u t_0 g nn s_0 (q_1, w.2) f) H := hP
  have hD : va_D A (ky_LW G x cs sc pf fg bb tk o mo ms r u t_0 g nn s_0 (q_1, w.2) f) := hD
  refine W.widen (k := cells + 13) (n := slots + 274) (by omega) (by omega) ?_
  refine lv_astore (lv' := [(6, .ref z_1), (5, .int (j_0)), (0, .ref b), (1, .ref x), (2, .ref mo), (3, .ref o), (4, .int (i))]) hx hb dc_L_law_2039 hl (by decide) rfl (fun ls hl => ?_)
  refine lv_goto (tgt := 2301) hx hb dc_L_law_2041 (by decide) ?_
  refine W.widen (k := cells + 544) (n := slots + 12088) (by omega) (by omega) ?_
  exact KK _ _ _ _ _ _ _ _ _ _ hk_0 (si_thr q_1 hsi) (lv_sub hl [2, 3, 4, 5, 6] rfl) hP hD hS hIT
set_option linter.constructorNameAsVariable false in
set_option maxHeartbeats 4000000 in
set_option maxRecDepth 100000 in
theorem lc_43 (hl9 : l.stackTraces = false) (F : ky_F p s m meth c "ExactdoublesLaw" code 7 ret #[Value.ref b]) (hE : ky_E G s) (hfr : ∀ q, A q → ky_fr G q) (hA : ∀ q, s.heap.size ≤ q → A q)
    (hXX : va_X b L xs s s.heap) (hbl : b < s.heap.size) (hbA : ¬ A b) {i : Int32} (h1 : vp_in ((i) + ((1 : Int32))) L) (h2 : vp_in ((i) + ((2 : Int32))) L) (h3 : vp_in ((i) + ((3 : Int32))) L) (hl : lv_has ls 7 [(0, .ref b), (1, .ref x), (2, .ref mo), (3, .ref o), (4, .int (i))])
    (hsk : ky_sok t) (hsi : ky_SI u w) (hP : va_P G.1 kcl (ky_LW G x cs sc pf fg bb tk o mo ms r u t g nn sv w f) H) (hD : va_D A (ky_LW G x cs sc pf fg bb tk o mo ms r u t g nn sv w f)) (hS : va_S A s.heap H locs) (hIT : ky_IT G mo ms (fun _ => False) f w.2.2.2.2 H) (hcc : cells + 544 ≤ 601024) (hss : slots + 12088 ≤ 7293034)
    (KK : ∀ (u : ky_BS) (t : ky_SV) (g : Nat → Nat → Int64) (nn : Int64) (sv : Value) (w : ky_MV) (f : Nat → Option Nat) (H : Heap) (locs : List Loc) (ls : Array Slot), ky_sok t → ky_SI u w → lv_has ls 7 [(0, .ref b), (1, .ref x), (2, .ref mo), (3, .ref o), (4, .int (i))] → va_P G.1 kcl (ky_LW G x cs sc pf fg bb tk o mo ms r u t g nn sv w f) H → va_D A (ky_LW G x cs sc pf fg bb tk o mo ms r u t g nn sv w f) → va_S A s.heap H locs → ky_IT G mo ms (fun _ => False) f w.2.2.2.2 H →
      W p l e room_1 s m #[Value.ref b] below meth c H locs (cells + 544) (slots + 12088) Q (F0 m 2301 ls [])) : W p l e room_1 s m #[Value.ref b] below meth c H locs cells slots Q (F0 m 2044 ls []) := by
  obtain ⟨hx, hb, hml, hown, hr, hlocks, hts⟩ := id F
  refine lv_aload_n hx hb dc_L_law_2044 rfl (lv_at hl 1 rfl) ?_
  refine lv_aload_n hx hb dc_L_law_2045 rfl (lv_at hl 0 rfl) ?_
  refine lv_iload hx hb dc_L_law_2046 (lv_at hl 4 rfl) ?_
  refine lv_iconst (v := 1) hx hb dc_L_law_2048 (by decide) ?_
  refine lv_iadd hx hb dc_L_law_2049 ?_
  refine va_sld hx hb hXX hbl hbA hS h1 dc_L_law_2050 ?_
  generalize hy1 : xs (((i) + ((1 : Int32)))).toNatClampNeg = y1
  refine lv_aload_n hx hb dc_L_law_2051 rfl (lv_at hl 3 rfl) ?_
  refine cl_txt (As := [.ref x, .int (y1), .ref o]) F hE hfr hA (mt_L_stepOf l hl9 G x cs sc pf u fg bb t o nn sv (y1) H.size hsk) kH_L_322 ⟨⟨rfl, rfl⟩, Nat.le_of_ble_eq_true rfl, Nat.le_of_ble_eq_true rfl⟩ rfl hl.1 rfl (Nat.le_of_ble_eq_true rfl) ⟨by show (_ : Nat) ≤ 601024; omega, by show (_ : Nat) ≤ 7293034; omega⟩ hP hD hS hIT dc_L_law_2052 ?_
  rintro v9 ⟨t_0, s_0⟩ H locs ⟨⟨j_0, rfl⟩, hk_0⟩ hP hD hS hIT
  have hP : va_P G.1 kcl (ky_LW G x cs sc pf fg bb tk o mo ms r u t_0 g nn s_0 w f) H := hP
  have hD : va_D A (ky_LW G x cs sc pf fg bb tk o mo ms r u t_0 g nn s_0 w f) := hD
  refine W.widen (k := cells + 4) (n := slots + 78) (by omega) (by omega) ?_
  refine lv_istore (lv' := [(5, .int (j_0)), (0, .ref b), (1, .ref x), (2, .ref mo), (3, .ref o), (4, .int (i))]) hx hb dc_L_law_2055 hl (by decide) rfl (fun ls hl => ?_)
  refine lv_aload_n hx hb dc_L_law_2057 rfl (lv_at hl 3 rfl) ?_
  refine lv_aload_n hx hb dc_L_law_2058 rfl (lv_at hl 1 rfl) ?_
  refine lv_iload hx hb dc_L_law_2059 (lv_at hl 5 rfl) ?_
  refine lv_iconst (v := 1) hx hb dc_L_law_2061 (by decide) ?_
  refine lv_iadd hx hb dc_L_law_2062 ?_
  refine va_sld hx hb hXX hbl hbA hS h1 dc_L_law_2063 ?_
  rw [hy1]
  refine cl_mr (As := [.int (y1)]) F hE hfr hA (mt_X9_stepOf l G mo ms (fun _ => False) w f (y1) H.size) kv_L_324 ⟨⟨rfl, rfl⟩, Nat.le_of_ble_eq_true rfl, Nat.le_of_ble_eq_true rfl⟩ rfl hl.1 rfl (Nat.le_of_ble_eq_true rfl) ⟨by show (_ : Nat) ≤ 601024; omega, by show (_ : Nat) ≤ 7293034; omega⟩ hP hD hS hIT rfl dc_L_law_2064 ?_
  rintro v9 q_1 H locs ⟨z_1, rfl⟩ hP hD hS hIT
  have hP : va_P G.1 kcl (ky_LW G x cs sc pf fg bb tk o mo ms r u t_0 g nn s_0 (q_1, w.2) f) H := hP
  have hD : va_D A (ky_LW G x cs sc pf fg bb tk o mo ms r u t_0 g nn s_0 (q_1, w.2) f) := hD
  refine W.widen (k := cells + 13) (n := slots + 274) (by omega) (by omega) ?_
  refine lv_astore (lv' := [(6, .ref z_1), (5, .int (j_0)), (0, .ref b), (1, .ref x), (2, .ref mo), (3, .ref o), (4, .int (i))]) hx hb dc_L_law_2067 hl (by decide) rfl (fun ls hl => ?_)
  refine lv_goto (tgt := 2301) hx hb dc_L_law_2069 (by decide) ?_
  refine W.widen (k := cells + 544) (n := slots + 12088) (by omega) (by omega) ?_
  exact KK _ _ _ _ _ _ _ _ _ _ hk_0 (si_thr q_1 hsi) (lv_sub hl [2, 3, 4, 5, 6] rfl) hP hD hS hIT
set_option linter.constructorNameAsVariable false in
set_option maxHeartbeats 4000000 in
set_option maxRecDepth 100000 in
theorem lc_44 (hl9 : l.stackTraces = false) (F : ky_F p s m meth c "ExactdoublesLaw" code 7 ret #[Value.ref b]) (hE : ky_E G s) (hfr : ∀ q, A q → ky_fr G q) (hA : ∀ q, s.heap.size ≤ q → A q)
    (hXX : va_X b L xs s s.heap) (hbl : b < s.heap.size) (hbA : ¬ A b) {i : Int32} (h1 : vp_in ((i) + ((1 : Int32))) L) (h2 : vp_in ((i) + ((2 : Int32))) L) (h3 : vp_in ((i) + ((3 : Int32))) L) (hl : lv_has ls 7 [(0, .ref b), (1, .ref x), (2, .ref mo), (3, .ref o), (4, .int (i))])
    (hsk : ky_sok t) (hsi : ky_SI u w) (hP : va_P G.1 kcl (ky_LW G x cs sc pf fg bb tk o mo ms r u t g nn sv w f) H) (hD : va_D A (ky_LW G x cs sc pf fg bb tk o mo ms r u t g nn sv w f)) (hS : va_S A s.heap H locs) (hIT : ky_IT G mo ms (fun _ => False) f w.2.2.2.2 H) (hcc : cells + 544 ≤ 601024) (hss : slots + 12088 ≤ 7293034)
    (KK : ∀ (u : ky_BS) (t : ky_SV) (g : Nat → Nat → Int64) (nn : Int64) (sv : Value) (w : ky_MV) (f : Nat → Option Nat) (H : Heap) (locs : List Loc) (ls : Array Slot), ky_sok t → ky_SI u w → lv_has ls 7 [(0, .ref b), (1, .ref x), (2, .ref mo), (3, .ref o), (4, .int (i))] → va_P G.1 kcl (ky_LW G x cs sc pf fg bb tk o mo ms r u t g nn sv w f) H → va_D A (ky_LW G x cs sc pf fg bb tk o mo ms r u t g nn sv w f) → va_S A s.heap H locs → ky_IT G mo ms (fun _ => False) f w.2.2.2.2 H →
      W p l e room_1 s m #[Value.ref b] below meth c H locs (cells + 544) (slots + 12088) Q (F0 m 2301 ls [])) : W p l e room_1 s m #[Value.ref b] below meth c H locs cells slots Q (F0 m 2072 ls []) := by
  obtain ⟨hx, hb, hml, hown, hr, hlocks, hts⟩ := id F
  refine lv_aload_n hx hb dc_L_law_2072 rfl (lv_at hl 1 rfl) ?_
  refine lv_aload_n hx hb dc_L_law_2073 rfl (lv_at hl 0 rfl) ?_
  refine lv_iload hx hb dc_L_law_2074 (lv_at hl 4 rfl) ?_
  refine lv_iconst (v := 1) hx hb dc_L_law_2076 (by decide) ?_
  refine lv_iadd hx hb dc_L_law_2077 ?_
  refine va_sld hx hb hXX hbl hbA hS h1 dc_L_law_2078 ?_
  generalize hy1 : xs (((i) + ((1 : Int32)))).toNatClampNeg = y1
  refine lv_aload_n hx hb dc_L_law_2079 rfl (lv_at hl 0 rfl) ?_
  refine lv_iload hx hb dc_L_law_2080 (lv_at hl 4 rfl) ?_
  refine lv_iconst (v := 2) hx hb dc_L_law_2082 (by decide) ?_
  refine lv_iadd hx hb dc_L_law_2083 ?_
  refine va_sld hx hb hXX hbl hbA hS h2 dc_L_law_2084 ?_
  generalize hy2 : xs (((i) + ((2 : Int32)))).toNatClampNeg = y2
  refine lv_if_eq (tgt := 2092) hx hb dc_L_law_2085 (by decide) (fun c_0 => ?_) (fun c_0 => ?_)
  · skip
    refine lv_iconst (v := 0) hx hb dc_L_law_2092 (by decide) ?_
    refine lv_aload_n hx hb dc_L_law_2093 rfl (lv_at hl 3 rfl) ?_
    refine cl_txt (As := [.ref x, .int (y1), .int ((0 : Int32)), .ref o]) F hE hfr hA (mt_L_nextOf l hl9 G x cs sc pf u fg bb t o nn sv (y1) ((0 : Int32)) H.size hsk) kH_L_325 ⟨⟨rfl, rfl⟩, Nat.le_of_ble_eq_true rfl, Nat.le_of_ble_eq_true rfl⟩ rfl hl.1 rfl (Nat.le_of_ble_eq_true rfl) ⟨by show (_ : Nat) ≤ 601024; omega, by show (_ : Nat) ≤ 7293034; omega⟩ hP hD hS hIT dc_L_law_2094 ?_
    rintro v9 ⟨t_1, s_1⟩ H locs ⟨⟨j_1, rfl⟩, hk_1⟩ hP hD hS hIT
    have hP : va_P G.1 kcl (ky_LW G x cs sc pf fg bb tk o mo ms r u t_1 g nn s_1 w f) H := hP
    have hD : va_D A (ky_LW G x cs sc pf fg bb tk o mo ms r u t_1 g nn s_1 w f) := hD
    refine W.widen (k := cells + 4) (n := slots + 78) (by omega) (by omega) ?_
    refine lv_istore (lv' := [(5, .int (j_1)), (0, .ref b), (1, .ref x), (2, .ref mo), (3, .ref o), (4, .int (i))]) hx hb dc_L_law_2097 hl (by decide) rfl (fun ls hl => ?_)
    refine lv_aload_n hx hb dc_L_law_2099 rfl (lv_at hl 3 rfl) ?_
    refine lv_aload_n hx hb dc_L_law_2100 rfl (lv_at hl 1 rfl) ?_
    refine lv_iload hx hb dc_L_law_2101 (lv_at hl 5 rfl) ?_
    refine lv_iconst (v := 1) hx hb dc_L_law_2103 (by decide) ?_
    refine lv_iadd hx hb dc_L_law_2104 ?_
    refine va_sld hx hb hXX hbl hbA hS h1 dc_L_law_2105 ?_
    rw [hy1]
    refine lv_aload_n hx hb dc_L_law_2106 rfl (lv_at hl 1 rfl) ?_
    refine lv_iload hx hb dc_L_law_2107 (lv_at hl 5 rfl) ?_
    refine lv_iconst (v := 2) hx hb dc_L_law_2109 (by decide) ?_
    refine lv_iadd hx hb dc_L_law_2110 ?_
    refine va_sld hx hb hXX hbl hbA hS h2 dc_L_law_2111 ?_
    rw [hy2]
    refine lv_if_eq (tgt := 2119) hx hb dc_L_law_2112 (by decide) (fun _ => ?_) (fun c_2 => absurd (c_0) c_2)
    refine lv_iconst (v := 0) hx hb dc_L_law_2119 (by decide) ?_
    refine cl_mr (As := [.int (y1), .int ((0 : Int32))]) F hE hfr hA (mt_X9_nextOf l G mo ms (fun _ => False) w f (y1) ((0 : Int32)) H.size) kv_L_327 ⟨⟨rfl, rfl⟩, Nat.le_of_ble_eq_true rfl, Nat.le_of_ble_eq_true rfl⟩ rfl hl.1 rfl (Nat.le_of_ble_eq_true rfl) ⟨by show (_ : Nat) ≤ 601024; omega, by show (_ : Nat) ≤ 7293034; omega⟩ hP hD hS hIT rfl dc_L_law_2120 ?_
    rintro v9 q_3 H locs ⟨z_3, rfl⟩ hP hD hS hIT
    have hP : va_P G.1 kcl (ky_LW G x cs sc pf fg bb tk o mo ms r u t_1 g nn s_1 (q_3, w.2) f) H := hP
    have hD : va_D A (ky_LW G x cs sc pf fg bb tk o mo ms r u t_1 g nn s_1 (q_3, w.2) f) := hD
    refine W.widen (k := cells + 15) (n := slots + 278) (by omega) (by omega) ?_
    refine lv_astore (lv' := [(6, .ref z_3), (5, .int (j_1)), (0, .ref b), (1, .ref x), (2, .ref mo), (3, .ref o), (4, .int (i))]) hx hb dc_L_law_2123 hl (by decide) rfl (fun ls hl => ?_)
    refine lv_goto (tgt := 2301) hx hb dc_L_law_2125 (by decide) ?_
    refine W.widen (k := cells + 544) (n := slots + 12088) (by omega) (by omega) ?_
    exact KK _ _ _ _ _ _ _ _ _ _ hk_1 (si_thr q_3 hsi) (lv_sub hl [2, 3, 4, 5, 6] rfl) hP hD hS hIT
  · skip
    refine lv_iconst (v := 1) hx hb dc_L_law_2088 (by decide) ?_
    refine lv_goto (tgt := 2093) hx hb dc_L_law_2089 (by decide) ?_
    refine lv_aload_n hx hb dc_L_law_2093 rfl (lv_at hl 3 rfl) ?_
    refine cl_txt (As := [.ref x, .int (y1), .int ((1 : Int32)), .ref o]) F hE hfr hA (mt_L_nextOf l hl9 G x cs sc pf u fg bb t o nn sv (y1) ((1 : Int32)) H.size hsk) kH_L_325 ⟨⟨rfl, rfl⟩, Nat.le_of_ble_eq_true rfl, Nat.le_of_ble_eq_true rfl⟩ rfl hl.1 rfl (Nat.le_of_ble_eq_true rfl) ⟨by show (_ : Nat) ≤ 601024; omega, by show (_ : Nat) ≤ 7293034; omega⟩ hP hD hS hIT dc_L_law_2094 ?_
    rintro v9 ⟨t_1, s_1⟩ H locs ⟨⟨j_1, rfl⟩, hk_1⟩ hP hD hS hIT
    have hP : va_P G.1 kcl (ky_LW G x cs sc pf fg bb tk o mo ms r u t_1 g nn s_1 w f) H := hP
    have hD : va_D A (ky_LW G x cs sc pf fg bb tk o mo ms r u t_1 g nn s_1 w f) := hD
    refine W.widen (k := cells + 4) (n := slots + 78) (by omega) (by omega) ?_
    refine lv_istore (lv' := [(5, .int (j_1)), (0, .ref b), (1, .ref x), (2, .ref mo), (3, .ref o), (4, .int (i))]) hx hb dc_L_law_2097 hl (by decide) rfl (fun ls hl => ?_)
    refine lv_aload_n hx hb dc_L_law_2099 rfl (lv_at hl 3 rfl) ?_
    refine lv_aload_n hx hb dc_L_law_2100 rfl (lv_at hl 1 rfl) ?_
    refine lv_iload hx hb dc_L_law_2101 (lv_at hl 5 rfl) ?_
    refine lv_iconst (v := 1) hx hb dc_L_law_2103 (by decide) ?_
    refine lv_iadd hx hb dc_L_law_2104 ?_
    refine va_sld hx hb hXX hbl hbA hS h1 dc_L_law_2105 ?_
    rw [hy1]
    refine lv_aload_n hx hb dc_L_law_2106 rfl (lv_at hl 1 rfl) ?_
    refine lv_iload hx hb dc_L_law_2107 (lv_at hl 5 rfl) ?_
    refine lv_iconst (v := 2) hx hb dc_L_law_2109 (by decide) ?_
    refine lv_iadd hx hb dc_L_law_2110 ?_
    refine va_sld hx hb hXX hbl hbA hS h2 dc_L_law_2111 ?_
    rw [hy2]
    refine lv_if_eq (tgt := 2119) hx hb dc_L_law_2112 (by decide) (fun c_2 => absurd c_2 (c_0)) (fun _ => ?_)
    refine lv_iconst (v := 1) hx hb dc_L_law_2115 (by decide) ?_
    refine lv_goto (tgt := 2120) hx hb dc_L_law_2116 (by decide) ?_
    refine cl_mr (As := [.int (y1), .int ((1 : Int32))]) F hE hfr hA (mt_X9_nextOf l G mo ms (fun _ => False) w f (y1) ((1 : Int32)) H.size) kv_L_327 ⟨⟨rfl, rfl⟩, Nat.le_of_ble_eq_true rfl, Nat.le_of_ble_eq_true rfl⟩ rfl hl.1 rfl (Nat.le_of_ble_eq_true rfl) ⟨by show (_ : Nat) ≤ 601024; omega, by show (_ : Nat) ≤ 7293034; omega⟩ hP hD hS hIT rfl dc_L_law_2120 ?_
    rintro v9 q_3 H locs ⟨z_3, rfl⟩ hP hD hS hIT
    have hP : va_P G.1 kcl (ky_LW G x cs sc pf fg bb tk o mo ms r u t_1 g nn s_1 (q_3, w.2) f) H := hP
    have hD : va_D A (ky_LW G x cs sc pf fg bb tk o mo ms r u t_1 g nn s_1 (q_3, w.2) f) := hD
    refine W.widen (k := cells + 15) (n := slots + 278) (by omega) (by omega) ?_
    refine lv_astore (lv' := [(6, .ref z_3), (5, .int (j_1)), (0, .ref b), (1, .ref x), (2, .ref mo), (3, .ref o), (4, .int (i))]) hx hb dc_L_law_2123 hl (by decide) rfl (fun ls hl => ?_)
    refine lv_goto (tgt := 2301) hx hb dc_L_law_2125 (by decide) ?_
    refine W.widen (k := cells + 544) (n := slots + 12088) (by omega) (by omega) ?_
    exact KK _ _ _ _ _ _ _ _ _ _ hk_1 (si_thr q_3 hsi) (lv_sub hl [2, 3, 4, 5, 6] rfl) hP hD hS hIT
set_option linter.constructorNameAsVariable false in
set_option maxHeartbeats 4000000 in
set_option maxRecDepth 100000 in
theorem lc_45 (hl9 : l.stackTraces = false) (F : ky_F p s m meth c "ExactdoublesLaw" code 7 ret #[Value.ref b]) (hE : ky_E G s) (hfr : ∀ q, A q → ky_fr G q) (hA : ∀ q, s.heap.size ≤ q → A q)
    (hXX : va_X b L xs s s.heap) (hbl : b < s.heap.size) (hbA : ¬ A b) {i : Int32} (h1 : vp_in ((i) + ((1 : Int32))) L) (h2 : vp_in ((i) + ((2 : Int32))) L) (h3 : vp_in ((i) + ((3 : Int32))) L) (hl : lv_has ls 7 [(0, .ref b), (1, .ref x), (2, .ref mo), (3, .ref o), (4, .int (i))])
    (hsk : ky_sok t) (hsi : ky_SI u w) (hP : va_P G.1 kcl (ky_LW G x cs sc pf fg bb tk o mo ms r u t g nn sv w f) H) (hD : va_D A (ky_LW G x cs sc pf fg bb tk o mo ms r u t g nn sv w f)) (hS : va_S A s.heap H locs) (hIT : ky_IT G mo ms (fun _ => False) f w.2.2.2.2 H) (hcc : cells + 544 ≤ 601024) (hss : slots + 12088 ≤ 7293034)
    (KK : ∀ (u : ky_BS) (t : ky_SV) (g : Nat → Nat → Int64) (nn : Int64) (sv : Value) (w : ky_MV) (f : Nat → Option Nat) (H : Heap) (locs : List Loc) (ls : Array Slot), ky_sok t → ky_SI u w → lv_has ls 7 [(0, .ref b), (1, .ref x), (2, .ref mo), (3, .ref o), (4, .int (i))] → va_P G.1 kcl (ky_LW G x cs sc pf fg bb tk o mo ms r u t g nn sv w f) H → va_D A (ky_LW G x cs sc pf fg bb tk o mo ms r u t g nn sv w f) → va_S A s.heap H locs → ky_IT G mo ms (fun _ => False) f w.2.2.2.2 H →
      W p l e room_1 s m #[Value.ref b] below meth c H locs (cells + 544) (slots + 12088) Q (F0 m 2301 ls [])) : W p l e room_1 s m #[Value.ref b] below meth c H locs cells slots Q (F0 m 2128 ls []) := by
  obtain ⟨hx, hb, hml, hown, hr, hlocks, hts⟩ := id F
  refine lv_aload_n hx hb dc_L_law_2128 rfl (lv_at hl 1 rfl) ?_
  refine lv_aload_n hx hb dc_L_law_2129 rfl (lv_at hl 0 rfl) ?_
  refine lv_iload hx hb dc_L_law_2130 (lv_at hl 4 rfl) ?_
  refine lv_iconst (v := 1) hx hb dc_L_law_2132 (by decide) ?_
  refine lv_iadd hx hb dc_L_law_2133 ?_
  refine va_sld hx hb hXX hbl hbA hS h1 dc_L_law_2134 ?_
  generalize hy1 : xs (((i) + ((1 : Int32)))).toNatClampNeg = y1
  refine lv_aload_n hx hb dc_L_law_2135 rfl (lv_at hl 0 rfl) ?_
  refine lv_iload hx hb dc_L_law_2136 (lv_at hl 4 rfl) ?_
  refine lv_iconst (v := 2) hx hb dc_L_law_2138 (by decide) ?_
  refine lv_iadd hx hb dc_L_law_2139 ?_
  refine va_sld hx hb hXX hbl hbA hS h2 dc_L_law_2140 ?_
  generalize hy2 : xs (((i) + ((2 : Int32)))).toNatClampNeg = y2
  refine lv_aload_n hx hb dc_L_law_2141 rfl (lv_at hl 3 rfl) ?_
  refine cl_txt (As := [.ref x, .int (y1), .int (y2), .ref o]) F hE hfr hA (mt_L_timesOf l hl9 G x cs sc pf u fg bb t o nn sv (y1) (y2) H.size hsk) kH_L_328 ⟨⟨rfl, rfl⟩, Nat.le_of_ble_eq_true rfl, Nat.le_of_ble_eq_true rfl⟩ rfl hl.1 rfl (Nat.le_of_ble_eq_true rfl) ⟨by show (_ : Nat) ≤ 601024; omega, by show (_ : Nat) ≤ 7293034; omega⟩ hP hD hS hIT dc_L_law_2142 ?_
  rintro v9 ⟨t_0, s_0⟩ H locs ⟨⟨j_0, rfl⟩, hk_0⟩ hP hD hS hIT
  have hP : va_P G.1 kcl (ky_LW G x cs sc pf fg bb tk o mo ms r u t_0 g nn s_0 w f) H := hP
  have hD : va_D A (ky_LW G x cs sc pf fg bb tk o mo ms r u t_0 g nn s_0 w f) := hD
  refine W.widen (k := cells + 4) (n := slots + 78) (by omega) (by omega) ?_
  refine lv_istore (lv' := [(5, .int (j_0)), (0, .ref b), (1, .ref x), (2, .ref mo), (3, .ref o), (4, .int (i))]) hx hb dc_L_law_2145 hl (by decide) rfl (fun ls hl => ?_)
  refine lv_aload_n hx hb dc_L_law_2147 rfl (lv_at hl 3 rfl) ?_
  refine lv_aload_n hx hb dc_L_law_2148 rfl (lv_at hl 1 rfl) ?_
  refine lv_iload hx hb dc_L_law_2149 (lv_at hl 5 rfl) ?_
  refine lv_iconst (v := 1) hx hb dc_L_law_2151 (by decide) ?_
  refine lv_iadd hx hb dc_L_law_2152 ?_
  refine va_sld hx hb hXX hbl hbA hS h1 dc_L_law_2153 ?_
  rw [hy1]
  refine lv_aload_n hx hb dc_L_law_2154 rfl (lv_at hl 1 rfl) ?_
  refine lv_iload hx hb dc_L_law_2155 (lv_at hl 5 rfl) ?_
  refine lv_iconst (v := 2) hx hb dc_L_law_2157 (by decide) ?_
  refine lv_iadd hx hb dc_L_law_2158 ?_
  refine va_sld hx hb hXX hbl hbA hS h2 dc_L_law_2159 ?_
  rw [hy2]
  refine cl_mr (As := [.int (y1), .int (y2)]) F hE hfr hA (mt_X9_timesOf l G mo ms (fun _ => False) w f (y1) (y2) H.size) kv_L_330 ⟨⟨rfl, rfl⟩, Nat.le_of_ble_eq_true rfl, Nat.le_of_ble_eq_true rfl⟩ rfl hl.1 rfl (Nat.le_of_ble_eq_true rfl) ⟨by show (_ : Nat) ≤ 601024; omega, by show (_ : Nat) ≤ 7293034; omega⟩ hP hD hS hIT rfl dc_L_law_2160 ?_
  rintro v9 q_1 H locs ⟨z_1, rfl⟩ hP hD hS hIT
  have hP : va_P G.1 kcl (ky_LW G x cs sc pf fg bb tk o mo ms r u t_0 g nn s_0 (q_1, w.2) f) H := hP
  have hD : va_D A (ky_LW G x cs sc pf fg bb tk o mo ms r u t_0 g nn s_0 (q_1, w.2) f) := hD
  refine W.widen (k := cells + 13) (n := slots + 274) (by omega) (by omega) ?_
  refine lv_astore (lv' := [(6, .ref z_1), (5, .int (j_0)), (0, .ref b), (1, .ref x), (2, .ref mo), (3, .ref o), (4, .int (i))]) hx hb dc_L_law_2163 hl (by decide) rfl (fun ls hl => ?_)
  refine lv_goto (tgt := 2301) hx hb dc_L_law_2165 (by decide) ?_
  refine W.widen (k := cells + 544) (n := slots + 12088) (by omega) (by omega) ?_
  exact KK _ _ _ _ _ _ _ _ _ _ hk_0 (si_thr q_1 hsi) (lv_sub hl [2, 3, 4, 5, 6] rfl) hP hD hS hIT
set_option linter.constructorNameAsVariable false in
set_option maxHeartbeats 4000000 in
set_option maxRecDepth 100000 in
theorem lc_46 (hl9 : l.stackTraces = false) (F : ky_F p s m meth c "ExactdoublesLaw" code 7 ret #[Value.ref b]) (hE : ky_E G s) (hfr : ∀ q, A q → ky_fr G q) (hA : ∀ q, s.heap.size ≤ q → A q)
    (hXX : va_X b L xs s s.heap) (hbl : b < s.heap.size) (hbA : ¬ A b) {i : Int32} (h1 : vp_in ((i) + ((1 : Int32))) L) (h2 : vp_in ((i) + ((2 : Int32))) L) (h3 : vp_in ((i) + ((3 : Int32))) L) (hl : lv_has ls 7 [(0, .ref b), (1, .ref x), (2, .ref mo), (3, .ref o), (4, .int (i))])
    (hsk : ky_sok t) (hsi : ky_SI u w) (hP : va_P G.1 kcl (ky_LW G x cs sc pf fg bb tk o mo ms r u t g nn sv w f) H) (hD : va_D A (ky_LW G x cs sc pf fg bb tk o mo ms r u t g nn sv w f)) (hS : va_S A s.heap H locs) (hIT : ky_IT G mo ms (fun _ => False) f w.2.2.2.2 H) (hcc : cells + 544 ≤ 601024) (hss : slots + 12088 ≤ 7293034)
    (KK : ∀ (u : ky_BS) (t : ky_SV) (g : Nat → Nat → Int64) (nn : Int64) (sv : Value) (w : ky_MV) (f : Nat → Option Nat) (H : Heap) (locs : List Loc) (ls : Array Slot), ky_sok t → ky_SI u w → lv_has ls 7 [(0, .ref b), (1, .ref x), (2, .ref mo), (3, .ref o), (4, .int (i))] → va_P G.1 kcl (ky_LW G x cs sc pf fg bb tk o mo ms r u t g nn sv w f) H → va_D A (ky_LW G x cs sc pf fg bb tk o mo ms r u t g nn sv w f) → va_S A s.heap H locs → ky_IT G mo ms (fun _ => False) f w.2.2.2.2 H →
      W p l e room_1 s m #[Value.ref b] below meth c H locs (cells + 544) (slots + 12088) Q (F0 m 2301 ls [])) : W p l e room_1 s m #[Value.ref b] below meth c H locs cells slots Q (F0 m 2168 ls []) := by
  obtain ⟨hx, hb, hml, hown, hr, hlocks, hts⟩ := id F
  refine lv_aload_n hx hb dc_L_law_2168 rfl (lv_at hl 1 rfl) ?_
  refine lv_aload_n hx hb dc_L_law_2169 rfl (lv_at hl 0 rfl) ?_
  refine lv_iload hx hb dc_L_law_2170 (lv_at hl 4 rfl) ?_
  refine lv_iconst (v := 1) hx hb dc_L_law_2172 (by decide) ?_
  refine lv_iadd hx hb dc_L_law_2173 ?_
  refine va_sld hx hb hXX hbl hbA hS h1 dc_L_law_2174 ?_
  generalize hy1 : xs (((i) + ((1 : Int32)))).toNatClampNeg = y1
  refine lv_aload_n hx hb dc_L_law_2175 rfl (lv_at hl 0 rfl) ?_
  refine lv_iload hx hb dc_L_law_2176 (lv_at hl 4 rfl) ?_
  refine lv_iconst (v := 2) hx hb dc_L_law_2178 (by decide) ?_
  refine lv_iadd hx hb dc_L_law_2179 ?_
  refine va_sld hx hb hXX hbl hbA hS h2 dc_L_law_2180 ?_
  generalize hy2 : xs (((i) + ((2 : Int32)))).toNatClampNeg = y2
  refine lv_aload_n hx hb dc_L_law_2181 rfl (lv_at hl 3 rfl) ?_
  refine cl_num (As := [.ref x, .int (y1), .int (y2), .ref o]) F hE hfr hA (mt_L_isBack l hl9 G x cs sc pf u o nn sv (y1) (y2) H.size) kH_L_331 ⟨⟨rfl, rfl⟩, Nat.le_of_ble_eq_true rfl, Nat.le_of_ble_eq_true rfl⟩ rfl hl.1 rfl (Nat.le_of_ble_eq_true rfl) ⟨by show (_ : Nat) ≤ 601024; omega, by show (_ : Nat) ≤ 7293034; omega⟩ hP hD hS hIT dc_L_law_2182 ?_
  rintro v9 ⟨u_0, n_0⟩ H locs ⟨rfl, hz_0⟩ hP hD hS hIT
  have hP : va_P G.1 kcl (ky_LW G x cs sc pf fg bb tk o mo ms r u_0 t g n_0 sv w f) H := hP
  have hD : va_D A (ky_LW G x cs sc pf fg bb tk o mo ms r u_0 t g n_0 sv w f) := hD
  have hu_0 : u_0 = (ky_lwb (fn_X6_isBack (y1) (y2) u) u nn).2.1 := congrArg Prod.fst hz_0
  generalize hj_0 : (ky_lwb (fn_X6_isBack (y1) (y2) u) u nn).1 = j_0
  refine W.widen (k := cells + 2) (n := slots + 12) (by omega) (by omega) ?_
  refine lv_istore (lv' := [(5, .int (j_0)), (0, .ref b), (1, .ref x), (2, .ref mo), (3, .ref o), (4, .int (i))]) hx hb dc_L_law_2185 hl (by decide) rfl (fun ls hl => ?_)
  refine lv_aload_n hx hb dc_L_law_2187 rfl (lv_at hl 3 rfl) ?_
  refine lv_aload_n hx hb dc_L_law_2188 rfl (lv_at hl 1 rfl) ?_
  refine lv_iload hx hb dc_L_law_2189 (lv_at hl 5 rfl) ?_
  refine lv_iconst (v := 1) hx hb dc_L_law_2191 (by decide) ?_
  refine lv_iadd hx hb dc_L_law_2192 ?_
  refine va_sld hx hb hXX hbl hbA hS h1 dc_L_law_2193 ?_
  rw [hy1]
  refine lv_aload_n hx hb dc_L_law_2194 rfl (lv_at hl 1 rfl) ?_
  refine lv_iload hx hb dc_L_law_2195 (lv_at hl 5 rfl) ?_
  refine lv_iconst (v := 2) hx hb dc_L_law_2197 (by decide) ?_
  refine lv_iadd hx hb dc_L_law_2198 ?_
  refine va_sld hx hb hXX hbl hbA hS h2 dc_L_law_2199 ?_
  rw [hy2]
  refine cl_mm (As := [.int (y1), .int (y2)]) F hE hfr hA (mt_X9_isBack l G mo ms (fun _ => False) w f (y1) (y2) H.size (ok_X9_isBack (y1) (y2) w)) kv_L_333 ⟨⟨rfl, rfl⟩, Nat.le_of_ble_eq_true rfl, Nat.le_of_ble_eq_true rfl⟩ rfl hl.1 rfl (Nat.le_of_ble_eq_true rfl) ⟨by show (_ : Nat) ≤ 601024; omega, by show (_ : Nat) ≤ 7293034; omega⟩ hP hD hS hIT rfl dc_L_law_2200 ?_
  rintro v9 ⟨w_1, f_1⟩ H locs ⟨rfl, hz_1⟩ hP hD hS hIT
  have hP : va_P G.1 kcl (ky_LW G x cs sc pf fg bb tk o mo ms r u_0 t g n_0 sv w_1 f_1) H := hP
  have hD : va_D A (ky_LW G x cs sc pf fg bb tk o mo ms r u_0 t g n_0 sv w_1 f_1) := hD
  generalize hj_1 : (fn_X9_isBack (y1) (y2) w).1 = j_1
  have hsi_1 : ky_SI u_0 w_1 := by rw [hu_0, show w_1 = (fn_X9_isBack (y1) (y2) w).2 from hz_1]; exact si_isBack (y1) (y2) u nn w hsi
  have hP : va_P G.1 kcl (ky_LW G x cs sc pf fg bb tk o mo ms r u_0 t g n_0 sv w_1 f_1) H := hP
  have hD : va_D A (ky_LW G x cs sc pf fg bb tk o mo ms r u_0 t g n_0 sv w_1 f_1) := hD
  refine W.widen (k := cells + 4) (n := slots + 16) (by omega) (by omega) ?_
  refine lv_istore (lv' := [(6, .int (j_1)), (5, .int (j_0)), (0, .ref b), (1, .ref x), (2, .ref mo), (3, .ref o), (4, .int (i))]) hx hb dc_L_law_2203 hl (by decide) rfl (fun ls hl => ?_)
  refine lv_goto (tgt := 2301) hx hb dc_L_law_2205 (by decide) ?_
  refine W.widen (k := cells + 544) (n := slots + 12088) (by omega) (by omega) ?_
  exact KK _ _ _ _ _ _ _ _ _ _ hsk hsi_1 (lv_sub hl [2, 3, 4, 5, 6] rfl) hP hD hS hIT
set_option linter.constructorNameAsVariable false in
set_option maxHeartbeats 4000000 in
set_option maxRecDepth 100000 in
theorem lc_47 (hl9 : l.stackTraces = false) (F : ky_F p s m meth c "ExactdoublesLaw" code 7 ret #[Value.ref b]) (hE : ky_E G s) (hfr : ∀ q, A q → ky_fr G q) (hA : ∀ q, s.heap.size ≤ q → A q)
    (hXX : va_X b L xs s s.heap) (hbl : b < s.heap.size) (hbA : ¬ A b) {i : Int32} (h1 : vp_in ((i) + ((1 : Int32))) L) (h2 : vp_in ((i) + ((2 : Int32))) L) (h3 : vp_in ((i) + ((3 : Int32))) L) (hl : lv_has ls 7 [(0, .ref b), (1, .ref x), (2, .ref mo), (3, .ref o), (4, .int (i))])
    (hsk : ky_sok t) (hsi : ky_SI u w) (hP : va_P G.1 kcl (ky_LW G x cs sc pf fg bb tk o mo ms r u t g nn sv w f) H) (hD : va_D A (ky_LW G x cs sc pf fg bb tk o mo ms r u t g nn sv w f)) (hS : va_S A s.heap H locs) (hIT : ky_IT G mo ms (fun _ => False) f w.2.2.2.2 H) (hcc : cells + 544 ≤ 601024) (hss : slots + 12088 ≤ 7293034)
    (KK : ∀ (u : ky_BS) (t : ky_SV) (g : Nat → Nat → Int64) (nn : Int64) (sv : Value) (w : ky_MV) (f : Nat → Option Nat) (H : Heap) (locs : List Loc) (ls : Array Slot), ky_sok t → ky_SI u w → lv_has ls 7 [(0, .ref b), (1, .ref x), (2, .ref mo), (3, .ref o), (4, .int (i))] → va_P G.1 kcl (ky_LW G x cs sc pf fg bb tk o mo ms r u t g nn sv w f) H → va_D A (ky_LW G x cs sc pf fg bb tk o mo ms r u t g nn sv w f) → va_S A s.heap H locs → ky_IT G mo ms (fun _ => False) f w.2.2.2.2 H →
      W p l e room_1 s m #[Value.ref b] below meth c H locs (cells + 544) (slots + 12088) Q (F0 m 2301 ls [])) : W p l e room_1 s m #[Value.ref b] below meth c H locs cells slots Q (F0 m 2208 ls []) := by
  obtain ⟨hx, hb, hml, hown, hr, hlocks, hts⟩ := id F
  refine lv_aload_n hx hb dc_L_law_2208 rfl (lv_at hl 1 rfl) ?_
  refine cl_gl (As := []) F hE hfr hA (mt_X6_greatest l G x cs sc pf u fg bb t H.size hsk) kv_L_334 ⟨⟨rfl, rfl⟩, Nat.le_of_ble_eq_true rfl, Nat.le_of_ble_eq_true rfl⟩ rfl hl.1 rfl (Nat.le_of_ble_eq_true rfl) ⟨by show (_ : Nat) ≤ 601024; omega, by show (_ : Nat) ≤ 7293034; omega⟩ hP hD hS hIT rfl dc_L_law_2209 ?_
  rintro v9 t_0 H locs ⟨⟨z_0, rfl⟩, hk_0⟩ hP hD hS hIT
  have hP : va_P G.1 kcl (ky_LW G x cs sc pf fg bb tk o mo ms r u t_0 g nn sv w f) H := hP
  have hD : va_D A (ky_LW G x cs sc pf fg bb tk o mo ms r u t_0 g nn sv w f) := hD
  refine W.widen (k := cells + 3) (n := slots + 72) (by omega) (by omega) ?_
  refine lv_pop hx hb dc_L_law_2212 rfl ?_
  refine lv_aload_n hx hb dc_L_law_2213 rfl (lv_at hl 2 rfl) ?_
  refine cl_mr (As := []) F hE hfr hA (mt_X9_greatest l G mo ms (fun _ => False) w f  H.size) kv_L_338 ⟨⟨rfl, rfl⟩, Nat.le_of_ble_eq_true rfl, Nat.le_of_ble_eq_true rfl⟩ rfl hl.1 rfl (Nat.le_of_ble_eq_true rfl) ⟨by show (_ : Nat) ≤ 601024; omega, by show (_ : Nat) ≤ 7293034; omega⟩ hP hD hS hIT rfl dc_L_law_2214 ?_
  rintro v9 q_1 H locs ⟨z_1, rfl⟩ hP hD hS hIT
  have hP : va_P G.1 kcl (ky_LW G x cs sc pf fg bb tk o mo ms r u t_0 g nn sv (q_1, w.2) f) H := hP
  have hD : va_D A (ky_LW G x cs sc pf fg bb tk o mo ms r u t_0 g nn sv (q_1, w.2) f) := hD
  refine W.widen (k := cells + 11) (n := slots + 266) (by omega) (by omega) ?_
  refine lv_pop hx hb dc_L_law_2217 rfl ?_
  refine lv_goto (tgt := 2301) hx hb dc_L_law_2218 (by decide) ?_
  refine W.widen (k := cells + 544) (n := slots + 12088) (by omega) (by omega) ?_
  exact KK _ _ _ _ _ _ _ _ _ _ hk_0 (si_thr q_1 hsi) (lv_sub hl [0, 1, 2, 3, 4] rfl) hP hD hS hIT
end KYLC
