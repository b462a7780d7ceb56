section
theorem se_X6_lastOfAll_L9 (u : ky_BS) : ∀ (n : Nat) (v1 : Int64) (v3 : Int32), (fn_X6_lastOfAll_L9 n u v1 v3).2 = u := by
  intro n
  induction n with
  | zero => intro v1 v3; rfl
  | succ n ih =>
    intro v1 v3
    rw [fn_X6_lastOfAll_L9]
    split
    · rfl
    · exact ih _ _
theorem se_X6_lastOfAll (u : ky_BS) : (fn_X6_lastOfAll u).2 = u := se_X6_lastOfAll_L9 u _ _ _
theorem se_X6_firstOfAll_L9 (u : ky_BS) : ∀ (n : Nat) (v1 : Int64) (v3 : Int32), (fn_X6_firstOfAll_L9 n u v1 v3).2 = u := by
  intro n
  induction n with
  | zero => intro v1 v3; rfl
  | succ n ih =>
    intro v1 v3
    rw [fn_X6_firstOfAll_L9]
    split
    · rfl
    · exact ih _ _
theorem se_X6_firstOfAll (u : ky_BS) : (fn_X6_firstOfAll u).2 = u := se_X6_firstOfAll_L9 u _ _ _
theorem se_X6_placeOf_L5 (u : ky_BS) (a : Int64) : ∀ (n : Nat) (v3 v4 : Int32), (fn_X6_placeOf_L5 n u a v3 v4).2 = u := by
  intro n
  induction n with
  | zero => intro v3 v4; rfl
  | succ n ih =>
    intro v3 v4
    rw [fn_X6_placeOf_L5]
    split
    · rfl
    · split
      · exact ih _ _
      · exact ih _ _
theorem se_X6_placeOf (a : Int64) (u : ky_BS) : (fn_X6_placeOf a u).2 = u := se_X6_placeOf_L5 u a _ _ _
theorem se_X6_countWholeOnes_L4 (u : ky_BS) : ∀ (n : Nat) (v1 v2 : Int32), (fn_X6_countWholeOnes_L4 n u v1 v2).2 = u := by
  intro n
  induction n with
  | zero => intro v1 v2; rfl
  | succ n ih =>
    intro v1 v2
    rw [fn_X6_countWholeOnes_L4]
    split
    · rfl
    · split
      · exact ih _ _
      · exact ih _ _
theorem se_X6_countWholeOnes (u : ky_BS) : (fn_X6_countWholeOnes u).2 = u := se_X6_countWholeOnes_L4 u _ _ _
theorem se_X6_countOf (a : Int32) (u : ky_BS) : (fn_X6_countOf a u).2 = u := by
  unfold fn_X6_countOf
  split
  · rfl
  · split
    · rfl
    · split
      · rfl
      · exact se_X6_countWholeOnes u
theorem rq_cellE {a : Int32} {E : String} (h : fn_X6_requireCell a = .inl E) : E = "java/lang/IndexOutOfBoundsException" := by
  unfold fn_X6_requireCell at h
  split at h
  · cases h; rfl
  · split at h
    · cases h
    · cases h; rfl
/-- the scribe's state, as the board sees it -/
abbrev ky_SV : Type := Nat × Nat × Nat × (Nat → Int32) × Int32 × (Nat → Int32)
def ky_sok (t : ky_SV) : Prop := ky_m2 t.2.1 ∧ t.2.2.1 ≤ t.2.1 ∧ ky_fit t.2.2.2.1 ∧ ky_chs t.2.2.2.2.2
abbrev ky_WS (G : ky_G) (sc fg b : Nat) (t : ky_SV) : va_W := ky_WC G sc fg t.2.2.2.2.2 b t.1 t.2.1 t.2.2.1 t.2.2.2.1 t.2.2.2.2.1
end
section
theorem mt_X6_lastOfAllJ (l : Launch) (G : ky_G) (x : Nat) (cs : Nat) (sc : Nat) (pf : Nat) (u : ky_BS)  (sz : Nat)  : Met l my_X6_lastOfAll (.code my_X6_lastOfAll prog_1_method_69_code 4 (some .long) :: ky_B) { frames := 3, cells := 0, slots := 0, locals := 65 } (ky_P G [.ref x] (ky_WB G x cs sc pf u) sz (fun _ => True)) (ky_Q (S := ky_BS) G (va_A (ky_WB G x cs sc pf u) sz) (fun v u9 => v = some (.long (fn_X6_lastOfAll u).1) ∧ u9 = u) (fun u9 => ky_WB G x cs sc pf u9) (fun _ _ => True)) 0 0 (va_A (ky_WB G x cs sc pf u) sz) := by
  have h := mt_X6_lastOfAll l G x cs sc pf u  sz (ok_lastOfAll u)
  rw [se_X6_lastOfAll] at h
  exact h
theorem mt_X6_firstOfAllJ (l : Launch) (G : ky_G) (x : Nat) (cs : Nat) (sc : Nat) (pf : Nat) (u : ky_BS)  (sz : Nat)  : Met l my_X6_firstOfAll (.code my_X6_firstOfAll prog_1_method_70_code 4 (some .long) :: ky_B) { frames := 3, cells := 0, slots := 0, locals := 65 } (ky_P G [.ref x] (ky_WB G x cs sc pf u) sz (fun _ => True)) (ky_Q (S := ky_BS) G (va_A (ky_WB G x cs sc pf u) sz) (fun v u9 => v = some (.long (fn_X6_firstOfAll u).1) ∧ u9 = u) (fun u9 => ky_WB G x cs sc pf u9) (fun _ _ => True)) 0 0 (va_A (ky_WB G x cs sc pf u) sz) := by
  have h := mt_X6_firstOfAll l G x cs sc pf u  sz (ok_firstOfAll u)
  rw [se_X6_firstOfAll] at h
  exact h
theorem mt_X6_placeOfJ (l : Launch) (G : ky_G) (x : Nat) (cs : Nat) (sc : Nat) (pf : Nat) (u : ky_BS) (a1 : Int64) (sz : Nat)  : Met l my_X6_placeOf (.code my_X6_placeOf prog_1_method_68_code 5 (some .int) :: ky_B) { frames := 2, cells := 0, slots := 0, locals := 42 } (ky_P G [.ref x, .long (a1)] (ky_WB G x cs sc pf u) sz (fun _ => True)) (ky_Q (S := ky_BS) G (va_A (ky_WB G x cs sc pf u) sz) (fun v u9 => v = some (.int (fn_X6_placeOf a1 u).1) ∧ u9 = u) (fun u9 => ky_WB G x cs sc pf u9) (fun _ _ => True)) 0 0 (va_A (ky_WB G x cs sc pf u) sz) := by
  have h := mt_X6_placeOf l G x cs sc pf u a1 sz (ok_placeOf a1 u)
  rw [se_X6_placeOf] at h
  exact h
theorem mt_X6_countOfJ (l : Launch) (G : ky_G) (x : Nat) (cs : Nat) (sc : Nat) (pf : Nat) (u : ky_BS) (a1 : Int32) (sz : Nat)  : Met l my_X6_countOf (.code my_X6_countOf prog_1_method_62_code 2 (some .int) :: ky_B) { frames := 5, cells := 0, slots := 0, locals := 106 } (ky_P G [.ref x, .int (a1)] (ky_WB G x cs sc pf u) sz (fun _ => True)) (ky_Q (S := ky_BS) G (va_A (ky_WB G x cs sc pf u) sz) (fun v u9 => v = some (.int (fn_X6_countOf a1 u).1) ∧ u9 = u) (fun u9 => ky_WB G x cs sc pf u9) (fun _ _ => True)) 0 0 (va_A (ky_WB G x cs sc pf u) sz) := by
  have h := mt_X6_countOf l G x cs sc pf u a1 sz (ok_countOf a1 u)
  rw [se_X6_countOf] at h
  exact h
end
