section KYLC
variable {p : Program} {l : Launch} {e : Env} {s : State} {m : MethodId} {below : List Frame} {meth : Method} {c : Code} {H : Heap} {locs : List Loc} {cells slots : Nat} {Q : State → Prop} {ls : Array Slot} {A : Nat → Prop} {G : ky_G} {b L : Nat} {xs : Nat → Int32}
variable {x cs sc pf fg bb tk o mo ms : Nat} {r : Nat → Nat} {u : ky_BS} {t : ky_SV} {g : Nat → Nat → Int64} {nn : Int64} {sv : Value} {w : ky_MV} {f : Nat → Option Nat}
set_option linter.constructorNameAsVariable false in
set_option maxHeartbeats 4000000 in
set_option maxRecDepth 100000 in
theorem lc_40 (hl9 : l.stackTraces = false) (F : ky_F p s m meth c "ExactdoublesLaw" code 7 ret #[Value.ref b]) (hE : ky_E G s) (hfr : ∀ q, A q → ky_fr G q) (hA : ∀ q, s.heap.size ≤ q → A q)
    (hXX : va_X b L xs s s.heap) (hbl : b < s.heap.size) (hbA : ¬ A b) {i : Int32} (h1 : vp_in ((i) + ((1 : Int32))) L) (h2 : vp_in ((i) + ((2 : Int32))) L) (h3 : vp_in ((i) + ((3 : Int32))) L) (hl : lv_has ls 7 [(0, .ref b), (1, .ref x), (2, .ref mo), (3, .ref o), (4, .int (i))])
    (hsk : ky_sok t) (hsi : ky_SI u w) (hP : va_P G.1 kcl (ky_LW G x cs sc pf fg bb tk o mo ms r u t g nn sv w f) H) (hD : va_D A (ky_LW G x cs sc pf fg bb tk o mo ms r u t g nn sv w f)) (hS : va_S A s.heap H locs) (hIT : ky_IT G mo ms (fun _ => False) f w.2.2.2.2 H) (hcc : cells + 544 ≤ 602769) (hss : slots + 12088 ≤ 7287796)
    (KK : ∀ (u : ky_BS) (t : ky_SV) (g : Nat → Nat → Int64) (nn : Int64) (sv : Value) (w : ky_MV) (f : Nat → Option Nat) (H : Heap) (locs : List Loc) (ls : Array Slot), ky_sok t → ky_SI u w → lv_has ls 7 [(0, .ref b), (1, .ref x), (2, .ref mo), (3, .ref o), (4, .int (i))] → va_P G.1 kcl (ky_LW G x cs sc pf fg bb tk o mo ms r u t g nn sv w f) H → va_D A (ky_LW G x cs sc pf fg bb tk o mo ms r u t g nn sv w f) → va_S A s.heap H locs → ky_IT G mo ms (fun _ => False) f w.2.2.2.2 H →
      W p l e room_1 s m #[Value.ref b] below meth c H locs (cells + 544) (slots + 12088) Q (F0 m 2294 ls [])) : W p l e room_1 s m #[Value.ref b] below meth c H locs cells slots Q (F0 m 1924 ls []) := by
  obtain ⟨hx, hb, hml, hown, hr, hlocks, hts⟩ := id F
  refine lv_aload_n hx hb dc_L_law_1924 rfl (lv_at hl 1 rfl) ?_
  refine lv_aload_n hx hb dc_L_law_1925 rfl (lv_at hl 0 rfl) ?_
  refine lv_iload hx hb dc_L_law_1926 (lv_at hl 4 rfl) ?_
  refine lv_iconst (v := 1) hx hb dc_L_law_1928 (by decide) ?_
  refine lv_iadd hx hb dc_L_law_1929 ?_
  refine va_sld hx hb hXX hbl hbA hS h1 dc_L_law_1930 ?_
  generalize hy1 : xs (((i) + ((1 : Int32)))).toNatClampNeg = y1
  refine lv_aload_n hx hb dc_L_law_1931 rfl (lv_at hl 3 rfl) ?_
  refine cl_txt (As := [.ref x, .int (y1), .ref o]) F hE hfr hA (mt_L_floorOf l hl9 G x cs sc pf u fg bb t o nn sv (y1) H.size hsk) kH_L_309 ⟨⟨rfl, rfl⟩, Nat.le_of_ble_eq_true rfl, Nat.le_of_ble_eq_true rfl⟩ rfl hl.1 rfl (Nat.le_of_ble_eq_true rfl) ⟨by show (_ : Nat) ≤ 602769; omega, by show (_ : Nat) ≤ 7287796; omega⟩ hP hD hS hIT dc_L_law_1932 ?_
  rintro v9 ⟨t_0, s_0⟩ H locs ⟨⟨j_0, rfl⟩, hk_0⟩ hP hD hS hIT
  have hP : va_P G.1 kcl (ky_LW G x cs sc pf fg bb tk o mo ms r u t_0 g nn s_0 w f) H := hP
  have hD : va_D A (ky_LW G x cs sc pf fg bb tk o mo ms r u t_0 g nn s_0 w f) := hD
  refine W.widen (k := cells + 4) (n := slots + 78) (by omega) (by omega) ?_
  refine lv_istore (lv' := [(5, .int (j_0)), (0, .ref b), (1, .ref x), (2, .ref mo), (3, .ref o), (4, .int (i))]) hx hb dc_L_law_1935 hl (by decide) rfl (fun ls hl => ?_)
  refine lv_aload_n hx hb dc_L_law_1937 rfl (lv_at hl 3 rfl) ?_
  refine lv_aload_n hx hb dc_L_law_1938 rfl (lv_at hl 1 rfl) ?_
  refine lv_iload hx hb dc_L_law_1939 (lv_at hl 5 rfl) ?_
  refine lv_iconst (v := 1) hx hb dc_L_law_1941 (by decide) ?_
  refine lv_iadd hx hb dc_L_law_1942 ?_
  refine va_sld hx hb hXX hbl hbA hS h1 dc_L_law_1943 ?_
  rw [hy1]
  refine cl_mr (As := [.int (y1)]) F hE hfr hA (mt_X9_floorOf l G mo ms (fun _ => False) w f (y1) H.size) kv_L_311 ⟨⟨rfl, rfl⟩, Nat.le_of_ble_eq_true rfl, Nat.le_of_ble_eq_true rfl⟩ rfl hl.1 rfl (Nat.le_of_ble_eq_true rfl) ⟨by show (_ : Nat) ≤ 602769; omega, by show (_ : Nat) ≤ 7287796; omega⟩ hP hD hS hIT rfl dc_L_law_1944 ?_
  rintro v9 q_1 H locs ⟨z_1, rfl⟩ hP hD hS hIT
  have hP : va_P G.1 kcl (ky_LW G x cs sc pf fg bb tk o mo ms r u t_0 g nn s_0 (q_1, w.2) f) H := hP
  have hD : va_D A (ky_LW G x cs sc pf fg bb tk o mo ms r u t_0 g nn s_0 (q_1, w.2) f) := hD
  refine W.widen (k := cells + 13) (n := slots + 274) (by omega) (by omega) ?_
  refine lv_astore (lv' := [(6, .ref z_1), (5, .int (j_0)), (0, .ref b), (1, .ref x), (2, .ref mo), (3, .ref o), (4, .int (i))]) hx hb dc_L_law_1947 hl (by decide) rfl (fun ls hl => ?_)
  refine lv_goto (tgt := 2294) hx hb dc_L_law_1949 (by decide) ?_
  refine W.widen (k := cells + 544) (n := slots + 12088) (by omega) (by omega) ?_
  exact KK _ _ _ _ _ _ _ _ _ _ hk_0 (si_thr q_1 hsi) (lv_sub hl [2, 3, 4, 5, 6] rfl) hP hD hS hIT
set_option linter.constructorNameAsVariable false in
set_option maxHeartbeats 4000000 in
set_option maxRecDepth 100000 in
theorem lc_41 (hl9 : l.stackTraces = false) (F : ky_F p s m meth c "ExactdoublesLaw" code 7 ret #[Value.ref b]) (hE : ky_E G s) (hfr : ∀ q, A q → ky_fr G q) (hA : ∀ q, s.heap.size ≤ q → A q)
    (hXX : va_X b L xs s s.heap) (hbl : b < s.heap.size) (hbA : ¬ A b) {i : Int32} (h1 : vp_in ((i) + ((1 : Int32))) L) (h2 : vp_in ((i) + ((2 : Int32))) L) (h3 : vp_in ((i) + ((3 : Int32))) L) (hl : lv_has ls 7 [(0, .ref b), (1, .ref x), (2, .ref mo), (3, .ref o), (4, .int (i))])
    (hsk : ky_sok t) (hsi : ky_SI u w) (hP : va_P G.1 kcl (ky_LW G x cs sc pf fg bb tk o mo ms r u t g nn sv w f) H) (hD : va_D A (ky_LW G x cs sc pf fg bb tk o mo ms r u t g nn sv w f)) (hS : va_S A s.heap H locs) (hIT : ky_IT G mo ms (fun _ => False) f w.2.2.2.2 H) (hcc : cells + 544 ≤ 602769) (hss : slots + 12088 ≤ 7287796)
    (KK : ∀ (u : ky_BS) (t : ky_SV) (g : Nat → Nat → Int64) (nn : Int64) (sv : Value) (w : ky_MV) (f : Nat → Option Nat) (H : Heap) (locs : List Loc) (ls : Array Slot), ky_sok t → ky_SI u w → lv_has ls 7 [(0, .ref b), (1, .ref x), (2, .ref mo), (3, .ref o), (4, .int (i))] → va_P G.1 kcl (ky_LW G x cs sc pf fg bb tk o mo ms r u t g nn sv w f) H → va_D A (ky_LW G x cs sc pf fg bb tk o mo ms r u t g nn sv w f) → va_S A s.heap H locs → ky_IT G mo ms (fun _ => False) f w.2.2.2.2 H →
      W p l e room_1 s m #[Value.ref b] below meth c H locs (cells + 544) (slots + 12088) Q (F0 m 2294 ls [])) : W p l e room_1 s m #[Value.ref b] below meth c H locs cells slots Q (F0 m 1952 ls []) := by
  obtain ⟨hx, hb, hml, hown, hr, hlocks, hts⟩ := id F
  refine lv_aload_n hx hb dc_L_law_1952 rfl (lv_at hl 1 rfl) ?_
  refine lv_aload_n hx hb dc_L_law_1953 rfl (lv_at hl 0 rfl) ?_
  refine lv_iload hx hb dc_L_law_1954 (lv_at hl 4 rfl) ?_
  refine lv_iconst (v := 1) hx hb dc_L_law_1956 (by decide) ?_
  refine lv_iadd hx hb dc_L_law_1957 ?_
  refine va_sld hx hb hXX hbl hbA hS h1 dc_L_law_1958 ?_
  generalize hy1 : xs (((i) + ((1 : Int32)))).toNatClampNeg = y1
  refine lv_aload_n hx hb dc_L_law_1959 rfl (lv_at hl 3 rfl) ?_
  refine cl_txt (As := [.ref x, .int (y1), .ref o]) F hE hfr hA (mt_L_ceilOf l hl9 G x cs sc pf u fg bb t o nn sv (y1) H.size hsk) kH_L_312 ⟨⟨rfl, rfl⟩, Nat.le_of_ble_eq_true rfl, Nat.le_of_ble_eq_true rfl⟩ rfl hl.1 rfl (Nat.le_of_ble_eq_true rfl) ⟨by show (_ : Nat) ≤ 602769; omega, by show (_ : Nat) ≤ 7287796; omega⟩ hP hD hS hIT dc_L_law_1960 ?_
  rintro v9 ⟨t_0, s_0⟩ H locs ⟨⟨j_0, rfl⟩, hk_0⟩ hP hD hS hIT
  have hP : va_P G.1 kcl (ky_LW G x cs sc pf fg bb tk o mo ms r u t_0 g nn s_0 w f) H := hP
  have hD : va_D A (ky_LW G x cs sc pf fg bb tk o mo ms r u t_0 g nn s_0 w f) := hD
  refine W.widen (k := cells + 4) (n := slots + 78) (by omega) (by omega) ?_
  refine lv_istore (lv' := [(5, .int (j_0)), (0, .ref b), (1, .ref x), (2, .ref mo), (3, .ref o), (4, .int (i))]) hx hb dc_L_law_1963 hl (by decide) rfl (fun ls hl => ?_)
  refine lv_aload_n hx hb dc_L_law_1965 rfl (lv_at hl 3 rfl) ?_
  refine lv_aload_n hx hb dc_L_law_1966 rfl (lv_at hl 1 rfl) ?_
  refine lv_iload hx hb dc_L_law_1967 (lv_at hl 5 rfl) ?_
  refine lv_iconst (v := 1) hx hb dc_L_law_1969 (by decide) ?_
  refine lv_iadd hx hb dc_L_law_1970 ?_
  refine va_sld hx hb hXX hbl hbA hS h1 dc_L_law_1971 ?_
  rw [hy1]
  refine cl_mr (As := [.int (y1)]) F hE hfr hA (mt_X9_ceilOf l G mo ms (fun _ => False) w f (y1) H.size) kv_L_314 ⟨⟨rfl, rfl⟩, Nat.le_of_ble_eq_true rfl, Nat.le_of_ble_eq_true rfl⟩ rfl hl.1 rfl (Nat.le_of_ble_eq_true rfl) ⟨by show (_ : Nat) ≤ 602769; omega, by show (_ : Nat) ≤ 7287796; omega⟩ hP hD hS hIT rfl dc_L_law_1972 ?_
  rintro v9 q_1 H locs ⟨z_1, rfl⟩ hP hD hS hIT
  have hP : va_P G.1 kcl (ky_LW G x cs sc pf fg bb tk o mo ms r u t_0 g nn s_0 (q_1, w.2) f) H := hP
  have hD : va_D A (ky_LW G x cs sc pf fg bb tk o mo ms r u t_0 g nn s_0 (q_1, w.2) f) := hD
  refine W.widen (k := cells + 13) (n := slots + 274) (by omega) (by omega) ?_
  refine lv_astore (lv' := [(6, .ref z_1), (5, .int (j_0)), (0, .ref b), (1, .ref x), (2, .ref mo), (3, .ref o), (4, .int (i))]) hx hb dc_L_law_1975 hl (by decide) rfl (fun ls hl => ?_)
  refine lv_goto (tgt := 2294) hx hb dc_L_law_1977 (by decide) ?_
  refine W.widen (k := cells + 544) (n := slots + 12088) (by omega) (by omega) ?_
  exact KK _ _ _ _ _ _ _ _ _ _ hk_0 (si_thr q_1 hsi) (lv_sub hl [2, 3, 4, 5, 6] rfl) hP hD hS hIT
set_option linter.constructorNameAsVariable false in
set_option maxHeartbeats 4000000 in
set_option maxRecDepth 100000 in
theorem lc_42 (hl9 : l.stackTraces = false) (F : ky_F p s m meth c "ExactdoublesLaw" code 7 ret #[Value.ref b]) (hE : ky_E G s) (hfr : ∀ q, A q → ky_fr G q) (hA : ∀ q, s.heap.size ≤ q → A q)
    (hXX : va_X b L xs s s.heap) (hbl : b < s.heap.size) (hbA : ¬ A b) {i : Int32} (h1 : vp_in ((i) + ((1 : Int32))) L) (h2 : vp_in ((i) + ((2 : Int32))) L) (h3 : vp_in ((i) + ((3 : Int32))) L) (hl : lv_has ls 7 [(0, .ref b), (1, .ref x), (2, .ref mo), (3, .ref o), (4, .int (i))])
    (hsk : ky_sok t) (hsi : ky_SI u w) (hP : va_P G.1 kcl (ky_LW G x cs sc pf fg bb tk o mo ms r u t g nn sv w f) H) (hD : va_D A (ky_LW G x cs sc pf fg bb tk o mo ms r u t g nn sv w f)) (hS : va_S A s.heap H locs) (hIT : ky_IT G mo ms (fun _ => False) f w.2.2.2.2 H) (hcc : cells + 544 ≤ 602769) (hss : slots + 12088 ≤ 7287796)
    (KK : ∀ (u : ky_BS) (t : ky_SV) (g : Nat → Nat → Int64) (nn : Int64) (sv : Value) (w : ky_MV) (f : Nat → Option Nat) (H : Heap) (locs : List Loc) (ls : Array Slot), ky_sok t → ky_SI u w → lv_has ls 7 [(0, .ref b), (1, .ref x), (2, .ref mo), (3, .ref o), (4, .int (i))] → va_P G.1 kcl (ky_LW G x cs sc pf fg bb tk o mo ms r u t g nn sv w f) H → va_D A (ky_LW G x cs sc pf fg bb tk o mo ms r u t g nn sv w f) → va_S A s.heap H locs → ky_IT G mo ms (fun _ => False) f w.2.2.2.2 H →
      W p l e room_1 s m #[Value.ref b] below meth c H locs (cells + 544) (slots + 12088) Q (F0 m 2294 ls [])) : W p l e room_1 s m #[Value.ref b] below meth c H locs cells slots Q (F0 m 1980 ls []) := by
  obtain ⟨hx, hb, hml, hown, hr, hlocks, hts⟩ := id F
  refine lv_aload_n hx hb dc_L_law_1980 rfl (lv_at hl 1 rfl) ?_
  refine lv_aload_n hx hb dc_L_law_1981 rfl (lv_at hl 0 rfl) ?_
  refine lv_iload hx hb dc_L_law_1982 (lv_at hl 4 rfl) ?_
  refine lv_iconst (v := 1) hx hb dc_L_law_1984 (by decide) ?_
  refine lv_iadd hx hb dc_L_law_1985 ?_
  refine va_sld hx hb hXX hbl hbA hS h1 dc_L_law_1986 ?_
  generalize hy1 : xs (((i) + ((1 : Int32)))).toNatClampNeg = y1
  refine lv_aload_n hx hb dc_L_law_1987 rfl (lv_at hl 3 rfl) ?_
  refine cl_txt (As := [.ref x, .int (y1), .ref o]) F hE hfr hA (mt_L_rintOf l hl9 G x cs sc pf u fg bb t o nn sv (y1) H.size hsk) kH_L_315 ⟨⟨rfl, rfl⟩, Nat.le_of_ble_eq_true rfl, Nat.le_of_ble_eq_true rfl⟩ rfl hl.1 rfl (Nat.le_of_ble_eq_true rfl) ⟨by show (_ : Nat) ≤ 602769; omega, by show (_ : Nat) ≤ 7287796; omega⟩ hP hD hS hIT dc_L_law_1988 ?_
  rintro v9 ⟨t_0, s_0⟩ H locs ⟨⟨j_0, rfl⟩, hk_0⟩ hP hD hS hIT
  have hP : va_P G.1 kcl (ky_LW G x cs sc pf fg bb tk o mo ms r u t_0 g nn s_0 w f) H := hP
  have hD : va_D A (ky_LW G x cs sc pf fg bb tk o mo ms r u t_0 g nn s_0 w f) := hD
  refine W.widen (k := cells + 4) (n := slots + 78) (by omega) (by omega) ?_
  refine lv_istore (lv' := [(5, .int (j_0)), (0, .ref b), (1, .ref x), (2, .ref mo), (3, .ref o), (4, .int (i))]) hx hb dc_L_law_1991 hl (by decide) rfl (fun ls hl => ?_)
  refine lv_aload_n hx hb dc_L_law_1993 rfl (lv_at hl 3 rfl) ?_
  refine lv_aload_n hx hb dc_L_law_1994 rfl (lv_at hl 1 rfl) ?_
  refine lv_iload hx hb dc_L_law_1995 (lv_at hl 5 rfl) ?_
  refine lv_iconst (v := 1) hx hb dc_L_law_1997 (by decide) ?_
  refine lv_iadd hx hb dc_L_law_1998 ?_
  refine va_sld hx hb hXX hbl hbA hS h1 dc_L_law_1999 ?_
  rw [hy1]
  refine cl_mr (As := [.int (y1)]) F hE hfr hA (mt_X9_rintOf l G mo ms (fun _ => False) w f (y1) H.size) kv_L_317 ⟨⟨rfl, rfl⟩, Nat.le_of_ble_eq_true rfl, Nat.le_of_ble_eq_true rfl⟩ rfl hl.1 rfl (Nat.le_of_ble_eq_true rfl) ⟨by show (_ : Nat) ≤ 602769; omega, by show (_ : Nat) ≤ 7287796; omega⟩ hP hD hS hIT rfl dc_L_law_2000 ?_
  rintro v9 q_1 H locs ⟨z_1, rfl⟩ hP hD hS hIT
  have hP : va_P G.1 kcl (ky_LW G x cs sc pf fg bb tk o mo ms r u t_0 g nn s_0 (q_1, w.2) f) H := hP
  have hD : va_D A (ky_LW G x cs sc pf fg bb tk o mo ms r u t_0 g nn s_0 (q_1, w.2) f) := hD
  refine W.widen (k := cells + 13) (n := slots + 274) (by omega) (by omega) ?_
  refine lv_astore (lv' := [(6, .ref z_1), (5, .int (j_0)), (0, .ref b), (1, .ref x), (2, .ref mo), (3, .ref o), (4, .int (i))]) hx hb dc_L_law_2003 hl (by decide) rfl (fun ls hl => ?_)
  refine lv_goto (tgt := 2294) hx hb dc_L_law_2005 (by decide) ?_
  refine W.widen (k := cells + 544) (n := slots + 12088) (by omega) (by omega) ?_
  exact KK _ _ _ _ _ _ _ _ _ _ hk_0 (si_thr q_1 hsi) (lv_sub hl [2, 3, 4, 5, 6] rfl) hP hD hS hIT
set_option linter.constructorNameAsVariable false in
set_option maxHeartbeats 4000000 in
set_option maxRecDepth 100000 in
theorem lc_43 (hl9 : l.stackTraces = false) (F : ky_F p s m meth c "ExactdoublesLaw" code 7 ret #[Value.ref b]) (hE : ky_E G s) (hfr : ∀ q, A q → ky_fr G q) (hA : ∀ q, s.heap.size ≤ q → A q)
    (hXX : va_X b L xs s s.heap) (hbl : b < s.heap.size) (hbA : ¬ A b) {i : Int32} (h1 : vp_in ((i) + ((1 : Int32))) L) (h2 : vp_in ((i) + ((2 : Int32))) L) (h3 : vp_in ((i) + ((3 : Int32))) L) (hl : lv_has ls 7 [(0, .ref b), (1, .ref x), (2, .ref mo), (3, .ref o), (4, .int (i))])
    (hsk : ky_sok t) (hsi : ky_SI u w) (hP : va_P G.1 kcl (ky_LW G x cs sc pf fg bb tk o mo ms r u t g nn sv w f) H) (hD : va_D A (ky_LW G x cs sc pf fg bb tk o mo ms r u t g nn sv w f)) (hS : va_S A s.heap H locs) (hIT : ky_IT G mo ms (fun _ => False) f w.2.2.2.2 H) (hcc : cells + 544 ≤ 602769) (hss : slots + 12088 ≤ 7287796)
    (KK : ∀ (u : ky_BS) (t : ky_SV) (g : Nat → Nat → Int64) (nn : Int64) (sv : Value) (w : ky_MV) (f : Nat → Option Nat) (H : Heap) (locs : List Loc) (ls : Array Slot), ky_sok t → ky_SI u w → lv_has ls 7 [(0, .ref b), (1, .ref x), (2, .ref mo), (3, .ref o), (4, .int (i))] → va_P G.1 kcl (ky_LW G x cs sc pf fg bb tk o mo ms r u t g nn sv w f) H → va_D A (ky_LW G x cs sc pf fg bb tk o mo ms r u t g nn sv w f) → va_S A s.heap H locs → ky_IT G mo ms (fun _ => False) f w.2.2.2.2 H →
      W p l e room_1 s m #[Value.ref b] below meth c H locs (cells + 544) (slots + 12088) Q (F0 m 2294 ls [])) : W p l e room_1 s m #[Value.ref b] below meth c H locs cells slots Q (F0 m 2008 ls []) := by
  obtain ⟨hx, hb, hml, hown, hr, hlocks, hts⟩ := id F
  refine lv_aload_n hx hb dc_L_law_2008 rfl (lv_at hl 1 rfl) ?_
  refine lv_aload_n hx hb dc_L_law_2009 rfl (lv_at hl 0 rfl) ?_
  refine lv_iload hx hb dc_L_law_2010 (lv_at hl 4 rfl) ?_
  refine lv_iconst (v := 1) hx hb dc_L_law_2012 (by decide) ?_
  refine lv_iadd hx hb dc_L_law_2013 ?_
  refine va_sld hx hb hXX hbl hbA hS h1 dc_L_law_2014 ?_
  generalize hy1 : xs (((i) + ((1 : Int32)))).toNatClampNeg = y1
  refine lv_aload_n hx hb dc_L_law_2015 rfl (lv_at hl 3 rfl) ?_
  refine cl_txt (As := [.ref x, .int (y1), .ref o]) F hE hfr hA (mt_L_stepOf l hl9 G x cs sc pf u fg bb t o nn sv (y1) H.size hsk) kH_L_318 ⟨⟨rfl, rfl⟩, Nat.le_of_ble_eq_true rfl, Nat.le_of_ble_eq_true rfl⟩ rfl hl.1 rfl (Nat.le_of_ble_eq_true rfl) ⟨by show (_ : Nat) ≤ 602769; omega, by show (_ : Nat) ≤ 7287796; omega⟩ hP hD hS hIT dc_L_law_2016 ?_
  rintro v9 ⟨t_0, s_0⟩ H locs ⟨⟨j_0, rfl⟩, hk_0⟩ hP hD hS hIT
  have hP : va_P G.1 kcl (ky_LW G x cs sc pf fg bb tk o mo ms r u t_0 g nn s_0 w f) H := hP
  have hD : va_D A (ky_LW G x cs sc pf fg bb tk o mo ms r u t_0 g nn s_0 w f) := hD
  refine W.widen (k := cells + 4) (n := slots + 78) (by omega) (by omega) ?_
  refine lv_istore (lv' := [(5, .int (j_0)), (0, .ref b), (1, .ref x), (2, .ref mo), (3, .ref o), (4, .int (i))]) hx hb dc_L_law_2019 hl (by decide) rfl (fun ls hl => ?_)
  refine lv_aload_n hx hb dc_L_law_2021 rfl (lv_at hl 3 rfl) ?_
  refine lv_aload_n hx hb dc_L_law_2022 rfl (lv_at hl 1 rfl) ?_
  refine lv_iload hx hb dc_L_law_2023 (lv_at hl 5 rfl) ?_
  refine lv_iconst (v := 1) hx hb dc_L_law_2025 (by decide) ?_
  refine lv_iadd hx hb dc_L_law_2026 ?_
  refine va_sld hx hb hXX hbl hbA hS h1 dc_L_law_2027 ?_
  rw [hy1]
  refine cl_mr (As := [.int (y1)]) F hE hfr hA (mt_X9_stepOf l G mo ms (fun _ => False) w f (y1) H.size) kv_L_320 ⟨⟨rfl, rfl⟩, Nat.le_of_ble_eq_true rfl, Nat.le_of_ble_eq_true rfl⟩ rfl hl.1 rfl (Nat.le_of_ble_eq_true rfl) ⟨by show (_ : Nat) ≤ 602769; omega, by show (_ : Nat) ≤ 7287796; omega⟩ hP hD hS hIT rfl dc_L_law_2028 ?_
  rintro v9 q_1 H locs ⟨z_1, rfl⟩ hP hD hS hIT
  have hP : va_P G.1 kcl (ky_LW G x cs sc pf fg bb tk o mo ms r u t_0 g nn s_0 (q_1, w.2) f) H := hP
  have hD : va_D A (ky_LW G x cs sc pf fg bb tk o mo ms r u t_0 g nn s_0 (q_1, w.2) f) := hD
  refine W.widen (k := cells + 13) (n := slots + 274) (by omega) (by omega) ?_
  refine lv_astore (lv' := [(6, .ref z_1), (5, .int (j_0)), (0, .ref b), (1, .ref x), (2, .ref mo), (3, .ref o), (4, .int (i))]) hx hb dc_L_law_2031 hl (by decide) rfl (fun ls hl => ?_)
  refine lv_goto (tgt := 2294) hx hb dc_L_law_2033 (by decide) ?_
  refine W.widen (k := cells + 544) (n := slots + 12088) (by omega) (by omega) ?_
  exact KK _ _ _ _ _ _ _ _ _ _ hk_0 (si_thr q_1 hsi) (lv_sub hl [2, 3, 4, 5, 6] rfl) hP hD hS hIT
set_option linter.constructorNameAsVariable false in
set_option maxHeartbeats 4000000 in
set_option maxRecDepth 100000 in
theorem lc_44 (hl9 : l.stackTraces = false) (F : ky_F p s m meth c "ExactdoublesLaw" code 7 ret #[Value.ref b]) (hE : ky_E G s) (hfr : ∀ q, A q → ky_fr G q) (hA : ∀ q, s.heap.size ≤ q → A q)
    (hXX : va_X b L xs s s.heap) (hbl : b < s.heap.size) (hbA : ¬ A b) {i : Int32} (h1 : vp_in ((i) + ((1 : Int32))) L) (h2 : vp_in ((i) + ((2 : Int32))) L) (h3 : vp_in ((i) + ((3 : Int32))) L) (hl : lv_has ls 7 [(0, .ref b), (1, .ref x), (2, .ref mo), (3, .ref o), (4, .int (i))])
    (hsk : ky_sok t) (hsi : ky_SI u w) (hP : va_P G.1 kcl (ky_LW G x cs sc pf fg bb tk o mo ms r u t g nn sv w f) H) (hD : va_D A (ky_LW G x cs sc pf fg bb tk o mo ms r u t g nn sv w f)) (hS : va_S A s.heap H locs) (hIT : ky_IT G mo ms (fun _ => False) f w.2.2.2.2 H) (hcc : cells + 544 ≤ 602769) (hss : slots + 12088 ≤ 7287796)
    (KK : ∀ (u : ky_BS) (t : ky_SV) (g : Nat → Nat → Int64) (nn : Int64) (sv : Value) (w : ky_MV) (f : Nat → Option Nat) (H : Heap) (locs : List Loc) (ls : Array Slot), ky_sok t → ky_SI u w → lv_has ls 7 [(0, .ref b), (1, .ref x), (2, .ref mo), (3, .ref o), (4, .int (i))] → va_P G.1 kcl (ky_LW G x cs sc pf fg bb tk o mo ms r u t g nn sv w f) H → va_D A (ky_LW G x cs sc pf fg bb tk o mo ms r u t g nn sv w f) → va_S A s.heap H locs → ky_IT G mo ms (fun _ => False) f w.2.2.2.2 H →
      W p l e room_1 s m #[Value.ref b] below meth c H locs (cells + 544) (slots + 12088) Q (F0 m 2294 ls [])) : W p l e room_1 s m #[Value.ref b] below meth c H locs cells slots Q (F0 m 2036 ls []) := by
  obtain ⟨hx, hb, hml, hown, hr, hlocks, hts⟩ := id F
  refine lv_aload_n hx hb dc_L_law_2036 rfl (lv_at hl 1 rfl) ?_
  refine lv_aload_n hx hb dc_L_law_2037 rfl (lv_at hl 0 rfl) ?_
  refine lv_iload hx hb dc_L_law_2038 (lv_at hl 4 rfl) ?_
  refine lv_iconst (v := 1) hx hb dc_L_law_2040 (by decide) ?_
  refine lv_iadd hx hb dc_L_law_2041 ?_
  refine va_sld hx hb hXX hbl hbA hS h1 dc_L_law_2042 ?_
  generalize hy1 : xs (((i) + ((1 : Int32)))).toNatClampNeg = y1
  refine lv_aload_n hx hb dc_L_law_2043 rfl (lv_at hl 0 rfl) ?_
  refine lv_iload hx hb dc_L_law_2044 (lv_at hl 4 rfl) ?_
  refine lv_iconst (v := 2) hx hb dc_L_law_2046 (by decide) ?_
  refine lv_iadd hx hb dc_L_law_2047 ?_
  refine va_sld hx hb hXX hbl hbA hS h2 dc_L_law_2048 ?_
  generalize hy2 : xs (((i) + ((2 : Int32)))).toNatClampNeg = y2
  refine lv_if_eq (tgt := 2056) hx hb dc_L_law_2049 (by decide) (fun c_0 => ?_) (fun c_0 => ?_)
  · skip
    refine lv_iconst (v := 0) hx hb dc_L_law_2056 (by decide) ?_
    refine lv_aload_n hx hb dc_L_law_2057 rfl (lv_at hl 3 rfl) ?_
    refine cl_txt (As := [.ref x, .int (y1), .int ((0 : Int32)), .ref o]) F hE hfr hA (mt_L_nextOf l hl9 G x cs sc pf u fg bb t o nn sv (y1) ((0 : Int32)) H.size hsk) kH_L_321 ⟨⟨rfl, rfl⟩, Nat.le_of_ble_eq_true rfl, Nat.le_of_ble_eq_true rfl⟩ rfl hl.1 rfl (Nat.le_of_ble_eq_true rfl) ⟨by show (_ : Nat) ≤ 602769; omega, by show (_ : Nat) ≤ 7287796; omega⟩ hP hD hS hIT dc_L_law_2058 ?_
    rintro v9 ⟨t_1, s_1⟩ H locs ⟨⟨j_1, rfl⟩, hk_1⟩ hP hD hS hIT
    have hP : va_P G.1 kcl (ky_LW G x cs sc pf fg bb tk o mo ms r u t_1 g nn s_1 w f) H := hP
    have hD : va_D A (ky_LW G x cs sc pf fg bb tk o mo ms r u t_1 g nn s_1 w f) := hD
    refine W.widen (k := cells + 4) (n := slots + 78) (by omega) (by omega) ?_
    refine lv_istore (lv' := [(5, .int (j_1)), (0, .ref b), (1, .ref x), (2, .ref mo), (3, .ref o), (4, .int (i))]) hx hb dc_L_law_2061 hl (by decide) rfl (fun ls hl => ?_)
    refine lv_aload_n hx hb dc_L_law_2063 rfl (lv_at hl 3 rfl) ?_
    refine lv_aload_n hx hb dc_L_law_2064 rfl (lv_at hl 1 rfl) ?_
    refine lv_iload hx hb dc_L_law_2065 (lv_at hl 5 rfl) ?_
    refine lv_iconst (v := 1) hx hb dc_L_law_2067 (by decide) ?_
    refine lv_iadd hx hb dc_L_law_2068 ?_
    refine va_sld hx hb hXX hbl hbA hS h1 dc_L_law_2069 ?_
    rw [hy1]
    refine lv_aload_n hx hb dc_L_law_2070 rfl (lv_at hl 1 rfl) ?_
    refine lv_iload hx hb dc_L_law_2071 (lv_at hl 5 rfl) ?_
    refine lv_iconst (v := 2) hx hb dc_L_law_2073 (by decide) ?_
    refine lv_iadd hx hb dc_L_law_2074 ?_
    refine va_sld hx hb hXX hbl hbA hS h2 dc_L_law_2075 ?_
    rw [hy2]
    refine lv_if_eq (tgt := 2083) hx hb dc_L_law_2076 (by decide) (fun _ => ?_) (fun c_2 => absurd (c_0) c_2)
    refine lv_iconst (v := 0) hx hb dc_L_law_2083 (by decide) ?_
    refine cl_mr (As := [.int (y1), .int ((0 : Int32))]) F hE hfr hA (mt_X9_nextOf l G mo ms (fun _ => False) w f (y1) ((0 : Int32)) H.size) kv_L_323 ⟨⟨rfl, rfl⟩, Nat.le_of_ble_eq_true rfl, Nat.le_of_ble_eq_true rfl⟩ rfl hl.1 rfl (Nat.le_of_ble_eq_true rfl) ⟨by show (_ : Nat) ≤ 602769; omega, by show (_ : Nat) ≤ 7287796; omega⟩ hP hD hS hIT rfl dc_L_law_2084 ?_
    rintro v9 q_3 H locs ⟨z_3, rfl⟩ hP hD hS hIT
    have hP : va_P G.1 kcl (ky_LW G x cs sc pf fg bb tk o mo ms r u t_1 g nn s_1 (q_3, w.2) f) H := hP
    have hD : va_D A (ky_LW G x cs sc pf fg bb tk o mo ms r u t_1 g nn s_1 (q_3, w.2) f) := hD
    refine W.widen (k := cells + 15) (n := slots + 278) (by omega) (by omega) ?_
    refine lv_astore (lv' := [(6, .ref z_3), (5, .int (j_1)), (0, .ref b), (1, .ref x), (2, .ref mo), (3, .ref o), (4, .int (i))]) hx hb dc_L_law_2087 hl (by decide) rfl (fun ls hl => ?_)
    refine lv_goto (tgt := 2294) hx hb dc_L_law_2089 (by decide) ?_
    refine W.widen (k := cells + 544) (n := slots + 12088) (by omega) (by omega) ?_
    exact KK _ _ _ _ _ _ _ _ _ _ hk_1 (si_thr q_3 hsi) (lv_sub hl [2, 3, 4, 5, 6] rfl) hP hD hS hIT
  · skip
    refine lv_iconst (v := 1) hx hb dc_L_law_2052 (by decide) ?_
    refine lv_goto (tgt := 2057) hx hb dc_L_law_2053 (by decide) ?_
    refine lv_aload_n hx hb dc_L_law_2057 rfl (lv_at hl 3 rfl) ?_
    refine cl_txt (As := [.ref x, .int (y1), .int ((1 : Int32)), .ref o]) F hE hfr hA (mt_L_nextOf l hl9 G x cs sc pf u fg bb t o nn sv (y1) ((1 : Int32)) H.size hsk) kH_L_321 ⟨⟨rfl, rfl⟩, Nat.le_of_ble_eq_true rfl, Nat.le_of_ble_eq_true rfl⟩ rfl hl.1 rfl (Nat.le_of_ble_eq_true rfl) ⟨by show (_ : Nat) ≤ 602769; omega, by show (_ : Nat) ≤ 7287796; omega⟩ hP hD hS hIT dc_L_law_2058 ?_
    rintro v9 ⟨t_1, s_1⟩ H locs ⟨⟨j_1, rfl⟩, hk_1⟩ hP hD hS hIT
    have hP : va_P G.1 kcl (ky_LW G x cs sc pf fg bb tk o mo ms r u t_1 g nn s_1 w f) H := hP
    have hD : va_D A (ky_LW G x cs sc pf fg bb tk o mo ms r u t_1 g nn s_1 w f) := hD
    refine W.widen (k := cells + 4) (n := slots + 78) (by omega) (by omega) ?_
    refine lv_istore (lv' := [(5, .int (j_1)), (0, .ref b), (1, .ref x), (2, .ref mo), (3, .ref o), (4, .int (i))]) hx hb dc_L_law_2061 hl (by decide) rfl (fun ls hl => ?_)
    refine lv_aload_n hx hb dc_L_law_2063 rfl (lv_at hl 3 rfl) ?_
    refine lv_aload_n hx hb dc_L_law_2064 rfl (lv_at hl 1 rfl) ?_
    refine lv_iload hx hb dc_L_law_2065 (lv_at hl 5 rfl) ?_
    refine lv_iconst (v := 1) hx hb dc_L_law_2067 (by decide) ?_
    refine lv_iadd hx hb dc_L_law_2068 ?_
    refine va_sld hx hb hXX hbl hbA hS h1 dc_L_law_2069 ?_
    rw [hy1]
    refine lv_aload_n hx hb dc_L_law_2070 rfl (lv_at hl 1 rfl) ?_
    refine lv_iload hx hb dc_L_law_2071 (lv_at hl 5 rfl) ?_
    refine lv_iconst (v := 2) hx hb dc_L_law_2073 (by decide) ?_
    refine lv_iadd hx hb dc_L_law_2074 ?_
    refine va_sld hx hb hXX hbl hbA hS h2 dc_L_law_2075 ?_
    rw [hy2]
    refine lv_if_eq (tgt := 2083) hx hb dc_L_law_2076 (by decide) (fun c_2 => absurd c_2 (c_0)) (fun _ => ?_)
    refine lv_iconst (v := 1) hx hb dc_L_law_2079 (by decide) ?_
    refine lv_goto (tgt := 2084) hx hb dc_L_law_2080 (by decide) ?_
    refine cl_mr (As := [.int (y1), .int ((1 : Int32))]) F hE hfr hA (mt_X9_nextOf l G mo ms (fun _ => False) w f (y1) ((1 : Int32)) H.size) kv_L_323 ⟨⟨rfl, rfl⟩, Nat.le_of_ble_eq_true rfl, Nat.le_of_ble_eq_true rfl⟩ rfl hl.1 rfl (Nat.le_of_ble_eq_true rfl) ⟨by show (_ : Nat) ≤ 602769; omega, by show (_ : Nat) ≤ 7287796; omega⟩ hP hD hS hIT rfl dc_L_law_2084 ?_
    rintro v9 q_3 H locs ⟨z_3, rfl⟩ hP hD hS hIT
    have hP : va_P G.1 kcl (ky_LW G x cs sc pf fg bb tk o mo ms r u t_1 g nn s_1 (q_3, w.2) f) H := hP
    have hD : va_D A (ky_LW G x cs sc pf fg bb tk o mo ms r u t_1 g nn s_1 (q_3, w.2) f) := hD
    refine W.widen (k := cells + 15) (n := slots + 278) (by omega) (by omega) ?_
    refine lv_astore (lv' := [(6, .ref z_3), (5, .int (j_1)), (0, .ref b), (1, .ref x), (2, .ref mo), (3, .ref o), (4, .int (i))]) hx hb dc_L_law_2087 hl (by decide) rfl (fun ls hl => ?_)
    refine lv_goto (tgt := 2294) hx hb dc_L_law_2089 (by decide) ?_
    refine W.widen (k := cells + 544) (n := slots + 12088) (by omega) (by omega) ?_
    exact KK _ _ _ _ _ _ _ _ _ _ hk_1 (si_thr q_3 hsi) (lv_sub hl [2, 3, 4, 5, 6] rfl) hP hD hS hIT
set_option linter.constructorNameAsVariable false in
set_option maxHeartbeats 4000000 in
set_option maxRecDepth 100000 in
theorem lc_45 (hl9 : l.stackTraces = false) (F : ky_F p s m meth c "ExactdoublesLaw" code 7 ret #[Value.ref b]) (hE : ky_E G s) (hfr : ∀ q, A q → ky_fr G q) (hA : ∀ q, s.heap.size ≤ q → A q)
    (hXX : va_X b L xs s s.heap) (hbl : b < s.heap.size) (hbA : ¬ A b) {i : Int32} (h1 : vp_in ((i) + ((1 : Int32))) L) (h2 : vp_in ((i) + ((2 : Int32))) L) (h3 : vp_in ((i) + ((3 : Int32))) L) (hl : lv_has ls 7 [(0, .ref b), (1, .ref x), (2, .ref mo), (3, .ref o), (4, .int (i))])
    (hsk : ky_sok t) (hsi : ky_SI u w) (hP : va_P G.1 kcl (ky_LW G x cs sc pf fg bb tk o mo ms r u t g nn sv w f) H) (hD : va_D A (ky_LW G x cs sc pf fg bb tk o mo ms r u t g nn sv w f)) (hS : va_S A s.heap H locs) (hIT : ky_IT G mo ms (fun _ => False) f w.2.2.2.2 H) (hcc : cells + 544 ≤ 602769) (hss : slots + 12088 ≤ 7287796)
    (KK : ∀ (u : ky_BS) (t : ky_SV) (g : Nat → Nat → Int64) (nn : Int64) (sv : Value) (w : ky_MV) (f : Nat → Option Nat) (H : Heap) (locs : List Loc) (ls : Array Slot), ky_sok t → ky_SI u w → lv_has ls 7 [(0, .ref b), (1, .ref x), (2, .ref mo), (3, .ref o), (4, .int (i))] → va_P G.1 kcl (ky_LW G x cs sc pf fg bb tk o mo ms r u t g nn sv w f) H → va_D A (ky_LW G x cs sc pf fg bb tk o mo ms r u t g nn sv w f) → va_S A s.heap H locs → ky_IT G mo ms (fun _ => False) f w.2.2.2.2 H →
      W p l e room_1 s m #[Value.ref b] below meth c H locs (cells + 544) (slots + 12088) Q (F0 m 2294 ls [])) : W p l e room_1 s m #[Value.ref b] below meth c H locs cells slots Q (F0 m 2092 ls []) := by
  obtain ⟨hx, hb, hml, hown, hr, hlocks, hts⟩ := id F
  refine lv_aload_n hx hb dc_L_law_2092 rfl (lv_at hl 1 rfl) ?_
  refine lv_aload_n hx hb dc_L_law_2093 rfl (lv_at hl 0 rfl) ?_
  refine lv_iload hx hb dc_L_law_2094 (lv_at hl 4 rfl) ?_
  refine lv_iconst (v := 1) hx hb dc_L_law_2096 (by decide) ?_
  refine lv_iadd hx hb dc_L_law_2097 ?_
  refine va_sld hx hb hXX hbl hbA hS h1 dc_L_law_2098 ?_
  generalize hy1 : xs (((i) + ((1 : Int32)))).toNatClampNeg = y1
  refine lv_aload_n hx hb dc_L_law_2099 rfl (lv_at hl 0 rfl) ?_
  refine lv_iload hx hb dc_L_law_2100 (lv_at hl 4 rfl) ?_
  refine lv_iconst (v := 2) hx hb dc_L_law_2102 (by decide) ?_
  refine lv_iadd hx hb dc_L_law_2103 ?_
  refine va_sld hx hb hXX hbl hbA hS h2 dc_L_law_2104 ?_
  generalize hy2 : xs (((i) + ((2 : Int32)))).toNatClampNeg = y2
  refine lv_aload_n hx hb dc_L_law_2105 rfl (lv_at hl 3 rfl) ?_
  refine cl_txt (As := [.ref x, .int (y1), .int (y2), .ref o]) F hE hfr hA (mt_L_timesOf l hl9 G x cs sc pf u fg bb t o nn sv (y1) (y2) H.size hsk) kH_L_324 ⟨⟨rfl, rfl⟩, Nat.le_of_ble_eq_true rfl, Nat.le_of_ble_eq_true rfl⟩ rfl hl.1 rfl (Nat.le_of_ble_eq_true rfl) ⟨by show (_ : Nat) ≤ 602769; omega, by show (_ : Nat) ≤ 7287796; omega⟩ hP hD hS hIT dc_L_law_2106 ?_
  rintro v9 ⟨t_0, s_0⟩ H locs ⟨⟨j_0, rfl⟩, hk_0⟩ hP hD hS hIT
  have hP : va_P G.1 kcl (ky_LW G x cs sc pf fg bb tk o mo ms r u t_0 g nn s_0 w f) H := hP
  have hD : va_D A (ky_LW G x cs sc pf fg bb tk o mo ms r u t_0 g nn s_0 w f) := hD
  refine W.widen (k := cells + 4) (n := slots + 78) (by omega) (by omega) ?_
  refine lv_istore (lv' := [(5, .int (j_0)), (0, .ref b), (1, .ref x), (2, .ref mo), (3, .ref o), (4, .int (i))]) hx hb dc_L_law_2109 hl (by decide) rfl (fun ls hl => ?_)
  refine lv_aload_n hx hb dc_L_law_2111 rfl (lv_at hl 3 rfl) ?_
  refine lv_aload_n hx hb dc_L_law_2112 rfl (lv_at hl 1 rfl) ?_
  refine lv_iload hx hb dc_L_law_2113 (lv_at hl 5 rfl) ?_
  refine lv_iconst (v := 1) hx hb dc_L_law_2115 (by decide) ?_
  refine lv_iadd hx hb dc_L_law_2116 ?_
  refine va_sld hx hb hXX hbl hbA hS h1 dc_L_law_2117 ?_
  rw [hy1]
  refine lv_aload_n hx hb dc_L_law_2118 rfl (lv_at hl 1 rfl) ?_
  refine lv_iload hx hb dc_L_law_2119 (lv_at hl 5 rfl) ?_
  refine lv_iconst (v := 2) hx hb dc_L_law_2121 (by decide) ?_
  refine lv_iadd hx hb dc_L_law_2122 ?_
  refine va_sld hx hb hXX hbl hbA hS h2 dc_L_law_2123 ?_
  rw [hy2]
  refine cl_mr (As := [.int (y1), .int (y2)]) F hE hfr hA (mt_X9_timesOf l G mo ms (fun _ => False) w f (y1) (y2) H.size) kv_L_326 ⟨⟨rfl, rfl⟩, Nat.le_of_ble_eq_true rfl, Nat.le_of_ble_eq_true rfl⟩ rfl hl.1 rfl (Nat.le_of_ble_eq_true rfl) ⟨by show (_ : Nat) ≤ 602769; omega, by show (_ : Nat) ≤ 7287796; omega⟩ hP hD hS hIT rfl dc_L_law_2124 ?_
  rintro v9 q_1 H locs ⟨z_1, rfl⟩ hP hD hS hIT
  have hP : va_P G.1 kcl (ky_LW G x cs sc pf fg bb tk o mo ms r u t_0 g nn s_0 (q_1, w.2) f) H := hP
  have hD : va_D A (ky_LW G x cs sc pf fg bb tk o mo ms r u t_0 g nn s_0 (q_1, w.2) f) := hD
  refine W.widen (k := cells + 13) (n := slots + 274) (by omega) (by omega) ?_
  refine lv_astore (lv' := [(6, .ref z_1), (5, .int (j_0)), (0, .ref b), (1, .ref x), (2, .ref mo), (3, .ref o), (4, .int (i))]) hx hb dc_L_law_2127 hl (by decide) rfl (fun ls hl => ?_)
  refine lv_goto (tgt := 2294) hx hb dc_L_law_2129 (by decide) ?_
  refine W.widen (k := cells + 544) (n := slots + 12088) (by omega) (by omega) ?_
  exact KK _ _ _ _ _ _ _ _ _ _ hk_0 (si_thr q_1 hsi) (lv_sub hl [2, 3, 4, 5, 6] rfl) hP hD hS hIT
set_option linter.constructorNameAsVariable false in
set_option maxHeartbeats 4000000 in
set_option maxRecDepth 100000 in
theorem lc_46 (hl9 : l.stackTraces = false) (F : ky_F p s m meth c "ExactdoublesLaw" code 7 ret #[Value.ref b]) (hE : ky_E G s) (hfr : ∀ q, A q → ky_fr G q) (hA : ∀ q, s.heap.size ≤ q → A q)
    (hXX : va_X b L xs s s.heap) (hbl : b < s.heap.size) (hbA : ¬ A b) {i : Int32} (h1 : vp_in ((i) + ((1 : Int32))) L) (h2 : vp_in ((i) + ((2 : Int32))) L) (h3 : vp_in ((i) + ((3 : Int32))) L) (hl : lv_has ls 7 [(0, .ref b), (1, .ref x), (2, .ref mo), (3, .ref o), (4, .int (i))])
    (hsk : ky_sok t) (hsi : ky_SI u w) (hP : va_P G.1 kcl (ky_LW G x cs sc pf fg bb tk o mo ms r u t g nn sv w f) H) (hD : va_D A (ky_LW G x cs sc pf fg bb tk o mo ms r u t g nn sv w f)) (hS : va_S A s.heap H locs) (hIT : ky_IT G mo ms (fun _ => False) f w.2.2.2.2 H) (hcc : cells + 544 ≤ 602769) (hss : slots + 12088 ≤ 7287796)
    (KK : ∀ (u : ky_BS) (t : ky_SV) (g : Nat → Nat → Int64) (nn : Int64) (sv : Value) (w : ky_MV) (f : Nat → Option Nat) (H : Heap) (locs : List Loc) (ls : Array Slot), ky_sok t → ky_SI u w → lv_has ls 7 [(0, .ref b), (1, .ref x), (2, .ref mo), (3, .ref o), (4, .int (i))] → va_P G.1 kcl (ky_LW G x cs sc pf fg bb tk o mo ms r u t g nn sv w f) H → va_D A (ky_LW G x cs sc pf fg bb tk o mo ms r u t g nn sv w f) → va_S A s.heap H locs → ky_IT G mo ms (fun _ => False) f w.2.2.2.2 H →
      W p l e room_1 s m #[Value.ref b] below meth c H locs (cells + 544) (slots + 12088) Q (F0 m 2294 ls [])) : W p l e room_1 s m #[Value.ref b] below meth c H locs cells slots Q (F0 m 2132 ls []) := by
  obtain ⟨hx, hb, hml, hown, hr, hlocks, hts⟩ := id F
  refine lv_aload_n hx hb dc_L_law_2132 rfl (lv_at hl 1 rfl) ?_
  refine lv_aload_n hx hb dc_L_law_2133 rfl (lv_at hl 0 rfl) ?_
  refine lv_iload hx hb dc_L_law_2134 (lv_at hl 4 rfl) ?_
  refine lv_iconst (v := 1) hx hb dc_L_law_2136 (by decide) ?_
  refine lv_iadd hx hb dc_L_law_2137 ?_
  refine va_sld hx hb hXX hbl hbA hS h1 dc_L_law_2138 ?_
  generalize hy1 : xs (((i) + ((1 : Int32)))).toNatClampNeg = y1
  refine lv_aload_n hx hb dc_L_law_2139 rfl (lv_at hl 0 rfl) ?_
  refine lv_iload hx hb dc_L_law_2140 (lv_at hl 4 rfl) ?_
  refine lv_iconst (v := 2) hx hb dc_L_law_2142 (by decide) ?_
  refine lv_iadd hx hb dc_L_law_2143 ?_
  refine va_sld hx hb hXX hbl hbA hS h2 dc_L_law_2144 ?_
  generalize hy2 : xs (((i) + ((2 : Int32)))).toNatClampNeg = y2
  refine lv_aload_n hx hb dc_L_law_2145 rfl (lv_at hl 3 rfl) ?_
  refine cl_num (As := [.ref x, .int (y1), .int (y2), .ref o]) F hE hfr hA (mt_L_isBack l hl9 G x cs sc pf u o nn sv (y1) (y2) H.size) kH_L_327 ⟨⟨rfl, rfl⟩, Nat.le_of_ble_eq_true rfl, Nat.le_of_ble_eq_true rfl⟩ rfl hl.1 rfl (Nat.le_of_ble_eq_true rfl) ⟨by show (_ : Nat) ≤ 602769; omega, by show (_ : Nat) ≤ 7287796; omega⟩ hP hD hS hIT dc_L_law_2146 ?_
  rintro v9 ⟨u_0, n_0⟩ H locs ⟨rfl, hz_0⟩ hP hD hS hIT
  have hP : va_P G.1 kcl (ky_LW G x cs sc pf fg bb tk o mo ms r u_0 t g n_0 sv w f) H := hP
  have hD : va_D A (ky_LW G x cs sc pf fg bb tk o mo ms r u_0 t g n_0 sv w f) := hD
  have hu_0 : u_0 = (ky_lwb (fn_X6_isBack (y1) (y2) u) u nn).2.1 := congrArg Prod.fst hz_0
  generalize hj_0 : (ky_lwb (fn_X6_isBack (y1) (y2) u) u nn).1 = j_0
  refine W.widen (k := cells + 2) (n := slots + 12) (by omega) (by omega) ?_
  refine lv_istore (lv' := [(5, .int (j_0)), (0, .ref b), (1, .ref x), (2, .ref mo), (3, .ref o), (4, .int (i))]) hx hb dc_L_law_2149 hl (by decide) rfl (fun ls hl => ?_)
  refine lv_aload_n hx hb dc_L_law_2151 rfl (lv_at hl 3 rfl) ?_
  refine lv_aload_n hx hb dc_L_law_2152 rfl (lv_at hl 1 rfl) ?_
  refine lv_iload hx hb dc_L_law_2153 (lv_at hl 5 rfl) ?_
  refine lv_iconst (v := 1) hx hb dc_L_law_2155 (by decide) ?_
  refine lv_iadd hx hb dc_L_law_2156 ?_
  refine va_sld hx hb hXX hbl hbA hS h1 dc_L_law_2157 ?_
  rw [hy1]
  refine lv_aload_n hx hb dc_L_law_2158 rfl (lv_at hl 1 rfl) ?_
  refine lv_iload hx hb dc_L_law_2159 (lv_at hl 5 rfl) ?_
  refine lv_iconst (v := 2) hx hb dc_L_law_2161 (by decide) ?_
  refine lv_iadd hx hb dc_L_law_2162 ?_
  refine va_sld hx hb hXX hbl hbA hS h2 dc_L_law_2163 ?_
  rw [hy2]
  refine cl_mm (As := [.int (y1), .int (y2)]) F hE hfr hA (mt_X9_isBack l G mo ms (fun _ => False) w f (y1) (y2) H.size (ok_X9_isBack (y1) (y2) w)) kv_L_329 ⟨⟨rfl, rfl⟩, Nat.le_of_ble_eq_true rfl, Nat.le_of_ble_eq_true rfl⟩ rfl hl.1 rfl (Nat.le_of_ble_eq_true rfl) ⟨by show (_ : Nat) ≤ 602769; omega, by show (_ : Nat) ≤ 7287796; omega⟩ hP hD hS hIT rfl dc_L_law_2164 ?_
  rintro v9 ⟨w_1, f_1⟩ H locs ⟨rfl, hz_1⟩ hP hD hS hIT
  have hP : va_P G.1 kcl (ky_LW G x cs sc pf fg bb tk o mo ms r u_0 t g n_0 sv w_1 f_1) H := hP
  have hD : va_D A (ky_LW G x cs sc pf fg bb tk o mo ms r u_0 t g n_0 sv w_1 f_1) := hD
  generalize hj_1 : (fn_X9_isBack (y1) (y2) w).1 = j_1
  have hsi_1 : ky_SI u_0 w_1 := by rw [hu_0, show w_1 = (fn_X9_isBack (y1) (y2) w).2 from hz_1]; exact si_isBack (y1) (y2) u nn w hsi
  have hP : va_P G.1 kcl (ky_LW G x cs sc pf fg bb tk o mo ms r u_0 t g n_0 sv w_1 f_1) H := hP
  have hD : va_D A (ky_LW G x cs sc pf fg bb tk o mo ms r u_0 t g n_0 sv w_1 f_1) := hD
  refine W.widen (k := cells + 4) (n := slots + 16) (by omega) (by omega) ?_
  refine lv_istore (lv' := [(6, .int (j_1)), (5, .int (j_0)), (0, .ref b), (1, .ref x), (2, .ref mo), (3, .ref o), (4, .int (i))]) hx hb dc_L_law_2167 hl (by decide) rfl (fun ls hl => ?_)
  refine lv_goto (tgt := 2294) hx hb dc_L_law_2169 (by decide) ?_
  refine W.widen (k := cells + 544) (n := slots + 12088) (by omega) (by omega) ?_
  exact KK _ _ _ _ _ _ _ _ _ _ hsk hsi_1 (lv_sub hl [2, 3, 4, 5, 6] rfl) hP hD hS hIT
set_option linter.constructorNameAsVariable false in
set_option maxHeartbeats 4000000 in
set_option maxRecDepth 100000 in
theorem lc_47 (hl9 : l.stackTraces = false) (F : ky_F p s m meth c "ExactdoublesLaw" code 7 ret #[Value.ref b]) (hE : ky_E G s) (hfr : ∀ q, A q → ky_fr G q) (hA : ∀ q, s.heap.size ≤ q → A q)
    (hXX : va_X b L xs s s.heap) (hbl : b < s.heap.size) (hbA : ¬ A b) {i : Int32} (h1 : vp_in ((i) + ((1 : Int32))) L) (h2 : vp_in ((i) + ((2 : Int32))) L) (h3 : vp_in ((i) + ((3 : Int32))) L) (hl : lv_has ls 7 [(0, .ref b), (1, .ref x), (2, .ref mo), (3, .ref o), (4, .int (i))])
    (hsk : ky_sok t) (hsi : ky_SI u w) (hP : va_P G.1 kcl (ky_LW G x cs sc pf fg bb tk o mo ms r u t g nn sv w f) H) (hD : va_D A (ky_LW G x cs sc pf fg bb tk o mo ms r u t g nn sv w f)) (hS : va_S A s.heap H locs) (hIT : ky_IT G mo ms (fun _ => False) f w.2.2.2.2 H) (hcc : cells + 544 ≤ 602769) (hss : slots + 12088 ≤ 7287796)
    (KK : ∀ (u : ky_BS) (t : ky_SV) (g : Nat → Nat → Int64) (nn : Int64) (sv : Value) (w : ky_MV) (f : Nat → Option Nat) (H : Heap) (locs : List Loc) (ls : Array Slot), ky_sok t → ky_SI u w → lv_has ls 7 [(0, .ref b), (1, .ref x), (2, .ref mo), (3, .ref o), (4, .int (i))] → va_P G.1 kcl (ky_LW G x cs sc pf fg bb tk o mo ms r u t g nn sv w f) H → va_D A (ky_LW G x cs sc pf fg bb tk o mo ms r u t g nn sv w f) → va_S A s.heap H locs → ky_IT G mo ms (fun _ => False) f w.2.2.2.2 H →
      W p l e room_1 s m #[Value.ref b] below meth c H locs (cells + 544) (slots + 12088) Q (F0 m 2294 ls [])) : W p l e room_1 s m #[Value.ref b] below meth c H locs cells slots Q (F0 m 2172 ls []) := by
  obtain ⟨hx, hb, hml, hown, hr, hlocks, hts⟩ := id F
  refine lv_aload_n hx hb dc_L_law_2172 rfl (lv_at hl 1 rfl) ?_
  refine cl_gl (As := []) F hE hfr hA (mt_X6_greatest l G x cs sc pf u fg bb t H.size hsk) kv_L_330 ⟨⟨rfl, rfl⟩, Nat.le_of_ble_eq_true rfl, Nat.le_of_ble_eq_true rfl⟩ rfl hl.1 rfl (Nat.le_of_ble_eq_true rfl) ⟨by show (_ : Nat) ≤ 602769; omega, by show (_ : Nat) ≤ 7287796; omega⟩ hP hD hS hIT rfl dc_L_law_2173 ?_
  rintro v9 t_0 H locs ⟨⟨z_0, rfl⟩, hk_0⟩ hP hD hS hIT
  have hP : va_P G.1 kcl (ky_LW G x cs sc pf fg bb tk o mo ms r u t_0 g nn sv w f) H := hP
  have hD : va_D A (ky_LW G x cs sc pf fg bb tk o mo ms r u t_0 g nn sv w f) := hD
  refine W.widen (k := cells + 3) (n := slots + 72) (by omega) (by omega) ?_
  refine lv_pop hx hb dc_L_law_2176 rfl ?_
  refine lv_aload_n hx hb dc_L_law_2177 rfl (lv_at hl 2 rfl) ?_
  refine cl_mr (As := []) F hE hfr hA (mt_X9_greatest l G mo ms (fun _ => False) w f  H.size) kv_L_334 ⟨⟨rfl, rfl⟩, Nat.le_of_ble_eq_true rfl, Nat.le_of_ble_eq_true rfl⟩ rfl hl.1 rfl (Nat.le_of_ble_eq_true rfl) ⟨by show (_ : Nat) ≤ 602769; omega, by show (_ : Nat) ≤ 7287796; omega⟩ hP hD hS hIT rfl dc_L_law_2178 ?_
  rintro v9 q_1 H locs ⟨z_1, rfl⟩ hP hD hS hIT
  have hP : va_P G.1 kcl (ky_LW G x cs sc pf fg bb tk o mo ms r u t_0 g nn sv (q_1, w.2) f) H := hP
  have hD : va_D A (ky_LW G x cs sc pf fg bb tk o mo ms r u t_0 g nn sv (q_1, w.2) f) := hD
  refine W.widen (k := cells + 11) (n := slots + 266) (by omega) (by omega) ?_
  refine lv_pop hx hb dc_L_law_2181 rfl ?_
  refine lv_goto (tgt := 2294) hx hb dc_L_law_2182 (by decide) ?_
  refine W.widen (k := cells + 544) (n := slots + 12088) (by omega) (by omega) ?_
  exact KK _ _ _ _ _ _ _ _ _ _ hk_0 (si_thr q_1 hsi) (lv_sub hl [0, 1, 2, 3, 4] rfl) hP hD hS hIT
end KYLC
