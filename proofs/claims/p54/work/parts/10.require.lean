theorem ky_atS {L : List Cond} (h : L.all (fun w => decide (w ∈ lw_tbl)) = true) (h2 : L.all (fun w => goodWord w || ky_far w) = true) : ∀ w ∈ L, w ∈ lw_tbl ∧ (goodWord w || ky_far w) = true := fun w hw => ⟨of_decide_eq_true (List.all_eq_true.mp h w hw), List.all_eq_true.mp h2 w hw⟩
theorem kt_220 : ∀ w ∈ vx_atS "Exactdoubles" 220 "java/lang/IndexOutOfBoundsException" ["java/lang/RuntimeException", "java/lang/Exception"], w ∈ lw_tbl ∧ (goodWord w || ky_far w) = true := ky_atS (by decide +kernel) (by decide +kernel)
theorem kt_227 : ∀ w ∈ vx_atS "Exactdoubles" 227 "java/lang/IllegalArgumentException" ["java/lang/RuntimeException", "java/lang/Exception"], w ∈ lw_tbl ∧ (goodWord w || ky_far w) = true := ky_atS (by decide +kernel) (by decide +kernel)
/-- what a board holds: its numbers, how many were given, refused, knocked -/
abbrev ky_BS : Type := (Nat → Int64) × Int32 × Int32 × Int32
abbrev ky_WB (G : ky_G) (x cs sc pf : Nat) (u : ky_BS) : va_W := [(x, .inr (0, [.ref cs, .ref sc, .ref pf, .int u.2.1, .int u.2.2.1, .int u.2.2.2])), (cs, .inl (G.2.1 2, 6, .inr (.inl u.1)))]
def fn_X6_requireCell (a0 : Int32) : Sum String (Unit × Unit) :=
  if (a0) < (0 : Int32) then (.inl "java/lang/IndexOutOfBoundsException") else (if (a0) < ((6 : Int32)) then (.inr ((), ())) else (.inl "java/lang/IndexOutOfBoundsException"))
set_option linter.constructorNameAsVariable false in
set_option maxHeartbeats 4000000 in
set_option maxRecDepth 100000 in
theorem mt_X6_requireCell (l : Launch) (hl9 : l.stackTraces = false) (G : ky_G)  (a0 : Int32) (sz : Nat)  : vx_Met l my_X6_requireCell (.code my_X6_requireCell prog_1_method_58_code 1 none :: ky_B) { frames := 6, cells := 1, slots := 6, locals := 82 } (ky_P G [.int (a0)] ([]) sz (fun _ => True)) (ky_Q (S := Unit) G (va_A ([]) sz) (fun v u9 => ∃ (r9 : Unit) (w9 : Unit), fn_X6_requireCell a0 = .inr (r9, w9) ∧ v = none ∧ u9 = w9) (fun _ => []) (fun _ _ => True)) (ky_X G (va_A ([]) sz) (fun E => fn_X6_requireCell a0 = .inl E) ([])) 1 6 (va_A ([]) sz) := by
  refine ky_startX (by decide) (Nat.le_of_ble_eq_true rfl) (fun p e s m below meth c F hno hE A hAe hsz hA hfr hP hD hS hX ls hl => ?_)
  obtain ⟨hx, hb, hml, hown, hr, hlocks, hts⟩ := id F
  have hl : lv_has ls 1 [(0, .int (a0))] := hl
  have hP : va_P G.1 kcl [] s.heap := hP
  have hD : va_D A [] := hD
  have hw : fn_X6_requireCell a0 = _ := fn_X6_requireCell.eq_1 a0
  refine lv_iload_n hx hb dc_X6_requireCell_0 rfl (lv_at hl 0 rfl) ?_
  refine lv_if_lt (tgt := 10) hx hb dc_X6_requireCell_1 (by decide) (fun c_0 => ?_) (fun c_0 => ?_)
  · have hw := hw.trans (if_pos c_0)
    have hP9 := hP.sub (ws' := []) [] rfl
    have hD9 := hD.sub (ws' := []) [] (by decide) rfl
    exact ky_throw F hno hl9 hE hfr (cls := "java/lang/IndexOutOfBoundsException") (text := "there is no such cell") (names := ["java/lang/RuntimeException", "java/lang/Exception"]) (by decide +kernel) (by decide +kernel) kw_4_90 kw_1_14 (kc_4 _ (List.mem_of_getElem? (i := 99) rfl)) (by decide +kernel) kt_220 hS hl.1 dc_X6_requireCell_10 dc_X6_requireCell_13 dc_X6_requireCell_14 dc_X6_requireCell_16 dc_X6_requireCell_19 (by decide) (Nat.le_of_ble_eq_true rfl) ⟨Nat.le_of_ble_eq_true rfl, Nat.le_of_ble_eq_true rfl⟩ ⟨Nat.le_of_ble_eq_true rfl, Nat.le_of_ble_eq_true rfl⟩ hP9 hD9 hw
  · have hw := hw.trans (if_neg c_0)
    refine lv_iload_n hx hb dc_X6_requireCell_4 rfl (lv_at hl 0 rfl) ?_
    refine lv_bipush (v := 6) hx hb dc_X6_requireCell_5 (by decide) ?_
    refine lv_icmp_lt (tgt := 20) hx hb dc_X6_requireCell_7 (by decide) (fun c_1 => ?_) (fun c_1 => ?_)
    · have hw := hw.trans (if_pos c_1)
      have hP9 := hP.sub (ws' := []) [] rfl
      have hD9 := hD.sub (ws' := []) [] (by decide) rfl
      refine W.widen (k := 1) (n := 6) (Nat.le_of_ble_eq_true rfl) (Nat.le_of_ble_eq_true rfl) ?_
      refine vx_ret ?_
      exact W.vret hx hb hr (fun t ht hW => ⟨⟨_, (), rfl, ⟨(), (), hw, rfl, rfl⟩, by rw [ht]; exact hP9, hD9, trivial⟩, hS.F ht⟩) hS.2.2 dc_X6_requireCell_20
    · have hw := hw.trans (if_neg c_1)
      have hP9 := hP.sub (ws' := []) [] rfl
      have hD9 := hD.sub (ws' := []) [] (by decide) rfl
      exact ky_throw F hno hl9 hE hfr (cls := "java/lang/IndexOutOfBoundsException") (text := "there is no such cell") (names := ["java/lang/RuntimeException", "java/lang/Exception"]) (by decide +kernel) (by decide +kernel) kw_4_90 kw_1_14 (kc_4 _ (List.mem_of_getElem? (i := 99) rfl)) (by decide +kernel) kt_220 hS hl.1 dc_X6_requireCell_10 dc_X6_requireCell_13 dc_X6_requireCell_14 dc_X6_requireCell_16 dc_X6_requireCell_19 (by decide) (Nat.le_of_ble_eq_true rfl) ⟨Nat.le_of_ble_eq_true rfl, Nat.le_of_ble_eq_true rfl⟩ ⟨Nat.le_of_ble_eq_true rfl, Nat.le_of_ble_eq_true rfl⟩ hP9 hD9 hw
theorem ky_in6 {a : Int32} (c1 : ¬ a < 0) (c2 : a < 6) : vp_in a 6 := by
  rw [Int32.lt_iff_toInt_lt] at c1 c2
  refine vp_in_iff.mpr ⟨?_, ?_⟩
  · have : (0 : Int32).toInt = 0 := rfl
    omega
  · have : (6 : Int32).toInt = 6 := rfl
    omega
theorem rq_cell {a : Int32} {z : Unit × Unit} (h : fn_X6_requireCell a = .inr z) : vp_in a 6 := by
  unfold fn_X6_requireCell at h
  split at h
  · cases h
  · rename_i c1
    split at h
    · rename_i c2
      exact ky_in6 c1 c2
    · cases h
def fn_X6_requireBoth (a0 : Int32) (a1 : Int32) : Sum String (Unit × Unit) :=
  ky_b (fn_X6_requireCell (a0)) (fun r_0 w_0 => ky_b (fn_X6_requireCell (a1)) (fun r_1 w_1 => .inr ((), ())))
set_option linter.constructorNameAsVariable false in
set_option maxHeartbeats 4000000 in
set_option maxRecDepth 100000 in
theorem mt_X6_requireBoth (l : Launch) (hl9 : l.stackTraces = false) (G : ky_G)  (a0 : Int32) (a1 : Int32) (sz : Nat)  : vx_Met l my_X6_requireBoth (.code my_X6_requireBoth prog_1_method_59_code 2 none :: ky_B) { frames := 7, cells := 2, slots := 12, locals := 102 } (ky_P G [.int (a0), .int (a1)] ([]) sz (fun _ => True)) (ky_Q (S := Unit) G (va_A ([]) sz) (fun v u9 => ∃ (r9 : Unit) (w9 : Unit), fn_X6_requireBoth a0 a1 = .inr (r9, w9) ∧ v = none ∧ u9 = w9) (fun _ => []) (fun _ _ => True)) (ky_X G (va_A ([]) sz) (fun E => fn_X6_requireBoth a0 a1 = .inl E) ([])) 2 12 (va_A ([]) sz) := by
  refine ky_startX (by decide) (Nat.le_of_ble_eq_true rfl) (fun p e s m below meth c F hno hE A hAe hsz hA hfr hP hD hS hX ls hl => ?_)
  obtain ⟨hx, hb, hml, hown, hr, hlocks, hts⟩ := id F
  have hl : lv_has ls 2 [(0, .int (a0)), (1, .int (a1))] := hl
  have hP : va_P G.1 kcl [] s.heap := hP
  have hD : va_D A [] := hD
  have hw : fn_X6_requireBoth a0 a1 = _ := fn_X6_requireBoth.eq_1 a0 a1
  refine lv_iload_n hx hb dc_X6_requireBoth_0 rfl (lv_at hl 0 rfl) ?_
  refine ky_cSx (As := [.int (a0)]) (wr := []) F (hE.at hfr hS) hfr (mt_X6_requireCell l hl9 G  (a0) s.heap.size ) ks_X6_27 ⟨⟨rfl, rfl⟩, by decide, by decide⟩ rfl hl.1 rfl (Nat.le_of_ble_eq_true rfl) ⟨Nat.le_of_ble_eq_true rfl, Nat.le_of_ble_eq_true rfl⟩ trivial hP hD hS hA [] [] rfl rfl (by decide) (by decide) (by decide) dc_X6_requireBoth_1 ?_ ?_
  · intro E ce q9 H locs hp hP hD hS hz hk9 hc1 hc2 hc3
    have hP9 := hP.sub (ws' := []) [] rfl
    have hD9 := hD.sub (ws' := []) [] (by decide) rfl
    exact vx_out (fun x h => (hno x h).elim) hlocks hc1 hc2 hc3 (fun t ht hW => ⟨hw.trans (ky_bl hp), by rw [ht]; exact hP9, hD9, hS.F ht⟩) hS.2.2 (Nat.le_of_ble_eq_true rfl) (Nat.le_of_ble_eq_true rfl)
  · rintro v9 u9 H locs ⟨r_0, w_0, hf_0, rfl, rfl⟩ hP hD hS - hz hk9
    have hw := hw.trans (ky_br hf_0)
    have hP : va_P G.1 kcl [] H := hP
    have hD : va_D A [] := hD
    refine W.widen (k := 1) (n := 6) (Nat.le_refl _) (Nat.le_refl _) ?_
    refine lv_iload_n hx hb dc_X6_requireBoth_4 rfl (lv_at hl 1 rfl) ?_
    refine ky_cSx (As := [.int (a1)]) (wr := []) F (hE.at hfr hS) hfr (mt_X6_requireCell l hl9 G  (a1) H.size ) ks_X6_27 ⟨⟨rfl, rfl⟩, by decide, by decide⟩ rfl hl.1 rfl (Nat.le_of_ble_eq_true rfl) ⟨Nat.le_of_ble_eq_true rfl, Nat.le_of_ble_eq_true rfl⟩ trivial hP hD hS hA [] [] rfl rfl (by decide) (by decide) (by decide) dc_X6_requireBoth_5 ?_ ?_
    · intro E ce q9 H locs hp hP hD hS hz hk9 hc1 hc2 hc3
      have hP9 := hP.sub (ws' := []) [] rfl
      have hD9 := hD.sub (ws' := []) [] (by decide) rfl
      exact vx_out (fun x h => (hno x h).elim) hlocks hc1 hc2 hc3 (fun t ht hW => ⟨hw.trans (ky_bl hp), by rw [ht]; exact hP9, hD9, hS.F ht⟩) hS.2.2 (Nat.le_of_ble_eq_true rfl) (Nat.le_of_ble_eq_true rfl)
    · rintro v9 u9 H locs ⟨r_1, w_1, hf_1, rfl, rfl⟩ hP hD hS - hz hk9
      have hw := hw.trans (ky_br hf_1)
      have hP : va_P G.1 kcl [] H := hP
      have hD : va_D A [] := hD
      refine W.widen (k := 2) (n := 12) (Nat.le_refl _) (Nat.le_refl _) ?_
      have hP9 := hP.sub (ws' := []) [] rfl
      have hD9 := hD.sub (ws' := []) [] (by decide) rfl
      refine W.widen (k := 2) (n := 12) (Nat.le_of_ble_eq_true rfl) (Nat.le_of_ble_eq_true rfl) ?_
      refine vx_ret ?_
      exact W.vret hx hb hr (fun t ht hW => ⟨⟨_, (), rfl, ⟨(), (), hw, rfl, rfl⟩, by rw [ht]; exact hP9, hD9, trivial⟩, hS.F ht⟩) hS.2.2 dc_X6_requireBoth_8
theorem rq_both {a b : Int32} {z : Unit × Unit} (h : fn_X6_requireBoth a b = .inr z) : vp_in a 6 ∧ vp_in b 6 := by
  unfold fn_X6_requireBoth at h
  cases h1 : fn_X6_requireCell a with
  | inl e => rw [h1] at h; cases h
  | inr z1 =>
    rw [h1] at h
    cases h2 : fn_X6_requireCell b with
    | inl e => simp [ky_b, h2] at h
    | inr z2 => exact ⟨rq_cell h1, rq_cell h2⟩
def fn_X6_requireWithin (a0 : Int32) (a1 : Int32) (a2 : Int32) : Sum String (Unit × Unit) :=
  if (a0) < (a1) then (.inl "java/lang/IllegalArgumentException") else (if (a0) ≤ (a2) then (.inr ((), ())) else (.inl "java/lang/IllegalArgumentException"))
set_option linter.constructorNameAsVariable false in
set_option maxHeartbeats 4000000 in
set_option maxRecDepth 100000 in
theorem mt_X6_requireWithin (l : Launch) (hl9 : l.stackTraces = false) (G : ky_G)  (a0 : Int32) (a1 : Int32) (a2 : Int32) (sz : Nat)  : vx_Met l my_X6_requireWithin (.code my_X6_requireWithin prog_1_method_60_code 3 none :: ky_B) { frames := 6, cells := 1, slots := 6, locals := 82 } (ky_P G [.int (a0), .int (a1), .int (a2)] ([]) sz (fun _ => True)) (ky_Q (S := Unit) G (va_A ([]) sz) (fun v u9 => ∃ (r9 : Unit) (w9 : Unit), fn_X6_requireWithin a0 a1 a2 = .inr (r9, w9) ∧ v = none ∧ u9 = w9) (fun _ => []) (fun _ _ => True)) (ky_X G (va_A ([]) sz) (fun E => fn_X6_requireWithin a0 a1 a2 = .inl E) ([])) 1 6 (va_A ([]) sz) := by
  refine ky_startX (by decide) (Nat.le_of_ble_eq_true rfl) (fun p e s m below meth c F hno hE A hAe hsz hA hfr hP hD hS hX ls hl => ?_)
  obtain ⟨hx, hb, hml, hown, hr, hlocks, hts⟩ := id F
  have hl : lv_has ls 3 [(0, .int (a0)), (1, .int (a1)), (2, .int (a2))] := hl
  have hP : va_P G.1 kcl [] s.heap := hP
  have hD : va_D A [] := hD
  have hw : fn_X6_requireWithin a0 a1 a2 = _ := fn_X6_requireWithin.eq_1 a0 a1 a2
  refine lv_iload_n hx hb dc_X6_requireWithin_0 rfl (lv_at hl 0 rfl) ?_
  refine lv_iload_n hx hb dc_X6_requireWithin_1 rfl (lv_at hl 1 rfl) ?_
  refine lv_icmp_lt (tgt := 10) hx hb dc_X6_requireWithin_2 (by decide) (fun c_0 => ?_) (fun c_0 => ?_)
  · have hw := hw.trans (if_pos c_0)
    have hP9 := hP.sub (ws' := []) [] rfl
    have hD9 := hD.sub (ws' := []) [] (by decide) rfl
    exact ky_throw F hno hl9 hE hfr (cls := "java/lang/IllegalArgumentException") (text := "a number is out of its bounds") (names := ["java/lang/RuntimeException", "java/lang/Exception"]) (by decide +kernel) (by decide +kernel) kw_4_140 kw_1_18 (kc_4 _ (List.mem_of_getElem? (i := 141) rfl)) (by decide +kernel) kt_227 hS hl.1 dc_X6_requireWithin_10 dc_X6_requireWithin_13 dc_X6_requireWithin_14 dc_X6_requireWithin_16 dc_X6_requireWithin_19 (by decide) (Nat.le_of_ble_eq_true rfl) ⟨Nat.le_of_ble_eq_true rfl, Nat.le_of_ble_eq_true rfl⟩ ⟨Nat.le_of_ble_eq_true rfl, Nat.le_of_ble_eq_true rfl⟩ hP9 hD9 hw
  · have hw := hw.trans (if_neg c_0)
    refine lv_iload_n hx hb dc_X6_requireWithin_5 rfl (lv_at hl 0 rfl) ?_
    refine lv_iload_n hx hb dc_X6_requireWithin_6 rfl (lv_at hl 2 rfl) ?_
    refine lv_icmp_le (tgt := 20) hx hb dc_X6_requireWithin_7 (by decide) (fun c_1 => ?_) (fun c_1 => ?_)
    · have hw := hw.trans (if_pos c_1)
      have hP9 := hP.sub (ws' := []) [] rfl
      have hD9 := hD.sub (ws' := []) [] (by decide) rfl
      refine W.widen (k := 1) (n := 6) (Nat.le_of_ble_eq_true rfl) (Nat.le_of_ble_eq_true rfl) ?_
      refine vx_ret ?_
      exact W.vret hx hb hr (fun t ht hW => ⟨⟨_, (), rfl, ⟨(), (), hw, rfl, rfl⟩, by rw [ht]; exact hP9, hD9, trivial⟩, hS.F ht⟩) hS.2.2 dc_X6_requireWithin_20
    · have hw := hw.trans (if_neg c_1)
      have hP9 := hP.sub (ws' := []) [] rfl
      have hD9 := hD.sub (ws' := []) [] (by decide) rfl
      exact ky_throw F hno hl9 hE hfr (cls := "java/lang/IllegalArgumentException") (text := "a number is out of its bounds") (names := ["java/lang/RuntimeException", "java/lang/Exception"]) (by decide +kernel) (by decide +kernel) kw_4_140 kw_1_18 (kc_4 _ (List.mem_of_getElem? (i := 141) rfl)) (by decide +kernel) kt_227 hS hl.1 dc_X6_requireWithin_10 dc_X6_requireWithin_13 dc_X6_requireWithin_14 dc_X6_requireWithin_16 dc_X6_requireWithin_19 (by decide) (Nat.le_of_ble_eq_true rfl) ⟨Nat.le_of_ble_eq_true rfl, Nat.le_of_ble_eq_true rfl⟩ ⟨Nat.le_of_ble_eq_true rfl, Nat.le_of_ble_eq_true rfl⟩ hP9 hD9 hw
theorem rq_within {a b c : Int32} {z : Unit × Unit} (h : fn_X6_requireWithin a b c = .inr z) : ¬ a < b ∧ a ≤ c := by
  unfold fn_X6_requireWithin at h
  split at h
  · cases h
  · rename_i c1
    split at h
    · rename_i c2
      exact ⟨c1, c2⟩
    · cases h
theorem rq_w12 {a : Int32} {z : Unit × Unit} (h : fn_X6_requireWithin a 0 (12 - 1) = .inr z) : vp_in a 12 := by
  obtain ⟨c1, c2⟩ := rq_within h
  rw [Int32.lt_iff_toInt_lt] at c1
  rw [Int32.le_iff_toInt_le] at c2
  refine vp_in_iff.mpr ⟨?_, ?_⟩
  · have : (0 : Int32).toInt = 0 := rfl
    omega
  · have : ((12 : Int32) - 1).toInt = 11 := by decide
    omega
