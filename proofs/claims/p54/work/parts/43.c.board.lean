theorem mt_X6_lastOfAllJ (l : Launch) (G : ky_G) (x : Nat) (cs : Nat) (sc : Nat) (pf : Nat) (u : ky_BS)  (sz : Nat)  : Met l my_X6_lastOfAll (.code my_X6_lastOfAll prog_1_method_69_code 4 (some .long) :: ky_B) { frames := 3, cells := 0, slots := 0, locals := 65 } (ky_P G [.ref x] (ky_WB G x cs sc pf u) sz (fun _ => True)) (ky_Q (S := ky_BS) G (va_A (ky_WB G x cs sc pf u) sz) (fun v u9 => v = some (.long (fn_X6_lastOfAll u).1) ∧ u9 = u) (fun u9 => ky_WB G x cs sc pf u9) (fun _ _ => True)) 0 0 (va_A (ky_WB G x cs sc pf u) sz) := by
  have h := mt_X6_lastOfAll l G x cs sc pf u  sz (ok_lastOfAll u)
  rw [se_X6_lastOfAll] at h
  exact h
theorem mt_X6_firstOfAllJ (l : Launch) (G : ky_G) (x : Nat) (cs : Nat) (sc : Nat) (pf : Nat) (u : ky_BS)  (sz : Nat)  : Met l my_X6_firstOfAll (.code my_X6_firstOfAll prog_1_method_70_code 4 (some .long) :: ky_B) { frames := 3, cells := 0, slots := 0, locals := 65 } (ky_P G [.ref x] (ky_WB G x cs sc pf u) sz (fun _ => True)) (ky_Q (S := ky_BS) G (va_A (ky_WB G x cs sc pf u) sz) (fun v u9 => v = some (.long (fn_X6_firstOfAll u).1) ∧ u9 = u) (fun u9 => ky_WB G x cs sc pf u9) (fun _ _ => True)) 0 0 (va_A (ky_WB G x cs sc pf u) sz) := by
  have h := mt_X6_firstOfAll l G x cs sc pf u  sz (ok_firstOfAll u)
  rw [se_X6_firstOfAll] at h
  exact h
theorem mt_X6_placeOfJ (l : Launch) (G : ky_G) (x : Nat) (cs : Nat) (sc : Nat) (pf : Nat) (u : ky_BS) (a1 : Int64) (sz : Nat)  : Met l my_X6_placeOf (.code my_X6_placeOf prog_1_method_68_code 5 (some .int) :: ky_B) { frames := 2, cells := 0, slots := 0, locals := 42 } (ky_P G [.ref x, .long (a1)] (ky_WB G x cs sc pf u) sz (fun _ => True)) (ky_Q (S := ky_BS) G (va_A (ky_WB G x cs sc pf u) sz) (fun v u9 => v = some (.int (fn_X6_placeOf a1 u).1) ∧ u9 = u) (fun u9 => ky_WB G x cs sc pf u9) (fun _ _ => True)) 0 0 (va_A (ky_WB G x cs sc pf u) sz) := by
  have h := mt_X6_placeOf l G x cs sc pf u a1 sz (ok_placeOf a1 u)
  rw [se_X6_placeOf] at h
  exact h
theorem mt_X6_countOfJ (l : Launch) (G : ky_G) (x : Nat) (cs : Nat) (sc : Nat) (pf : Nat) (u : ky_BS) (a1 : Int32) (sz : Nat)  : Met l my_X6_countOf (.code my_X6_countOf prog_1_method_62_code 2 (some .int) :: ky_B) { frames := 5, cells := 0, slots := 0, locals := 106 } (ky_P G [.ref x, .int (a1)] (ky_WB G x cs sc pf u) sz (fun _ => True)) (ky_Q (S := ky_BS) G (va_A (ky_WB G x cs sc pf u) sz) (fun v u9 => v = some (.int (fn_X6_countOf a1 u).1) ∧ u9 = u) (fun u9 => ky_WB G x cs sc pf u9) (fun _ _ => True)) 0 0 (va_A (ky_WB G x cs sc pf u) sz) := by
  have h := mt_X6_countOf l G x cs sc pf u a1 sz (ok_countOf a1 u)
  rw [se_X6_countOf] at h
  exact h
