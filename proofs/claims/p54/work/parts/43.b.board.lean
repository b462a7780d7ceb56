theorem se_X6_lastOfAll_L9 (u : ky_BS) : ∀ (n : Nat) (v1 : Int64) (v3 : Int32), (fn_X6_lastOfAll_L9 n u v1 v3).2 = u := by
  intro n
  induction n with
  | zero => intro v1 v3; rfl
  | succ n ih =>
    intro v1 v3
    rw [fn_X6_lastOfAll_L9]
    split
    · rfl
    · exact ih _ _
theorem se_X6_lastOfAll (u : ky_BS) : (fn_X6_lastOfAll u).2 = u := se_X6_lastOfAll_L9 u _ _ _
theorem se_X6_firstOfAll_L9 (u : ky_BS) : ∀ (n : Nat) (v1 : Int64) (v3 : Int32), (fn_X6_firstOfAll_L9 n u v1 v3).2 = u := by
  intro n
  induction n with
  | zero => intro v1 v3; rfl
  | succ n ih =>
    intro v1 v3
    rw [fn_X6_firstOfAll_L9]
    split
    · rfl
    · exact ih _ _
theorem se_X6_firstOfAll (u : ky_BS) : (fn_X6_firstOfAll u).2 = u := se_X6_firstOfAll_L9 u _ _ _
theorem se_X6_placeOf_L5 (u : ky_BS) (a : Int64) : ∀ (n : Nat) (v3 v4 : Int32), (fn_X6_placeOf_L5 n u a v3 v4).2 = u := by
  intro n
  induction n with
  | zero => intro v3 v4; rfl
  | succ n ih =>
    intro v3 v4
    rw [fn_X6_placeOf_L5]
    split
    · rfl
    · split
      · exact ih _ _
      · exact ih _ _
theorem se_X6_placeOf (a : Int64) (u : ky_BS) : (fn_X6_placeOf a u).2 = u := se_X6_placeOf_L5 u a _ _ _
theorem se_X6_countWholeOnes_L4 (u : ky_BS) : ∀ (n : Nat) (v1 v2 : Int32), (fn_X6_countWholeOnes_L4 n u v1 v2).2 = u := by
  intro n
  induction n with
  | zero => intro v1 v2; rfl
  | succ n ih =>
    intro v1 v2
    rw [fn_X6_countWholeOnes_L4]
    split
    · rfl
    · split
      · exact ih _ _
      · exact ih _ _
theorem se_X6_countWholeOnes (u : ky_BS) : (fn_X6_countWholeOnes u).2 = u := se_X6_countWholeOnes_L4 u _ _ _
theorem se_X6_countOf (a : Int32) (u : ky_BS) : (fn_X6_countOf a u).2 = u := by
  unfold fn_X6_countOf
  split
  · rfl
  · split
    · rfl
    · split
      · rfl
      · exact se_X6_countWholeOnes u
theorem rq_cellE {a : Int32} {E : String} (h : fn_X6_requireCell a = .inl E) : E = "java/lang/IndexOutOfBoundsException" := by
  unfold fn_X6_requireCell at h
  split at h
  · cases h; rfl
  · split at h
    · cases h
    · cases h; rfl
/-- the scribe's state, as the board sees it -/
abbrev ky_SV : Type := Nat × Nat × Nat × (Nat → Int32) × Int32 × (Nat → Int32)
def ky_sok (t : ky_SV) : Prop := ky_m2 t.2.1 ∧ t.2.2.1 ≤ t.2.1 ∧ ky_fit t.2.2.2.1 ∧ ky_chs t.2.2.2.2.2
abbrev ky_WS (G : ky_G) (sc fg b : Nat) (t : ky_SV) : va_W := ky_WC G sc fg t.2.2.2.2.2 b t.1 t.2.1 t.2.2.1 t.2.2.2.1 t.2.2.2.2.1
