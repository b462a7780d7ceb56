theorem ok_i1 {v : Int32} (h0 : 0 ≤ v.toInt) (h6 : ¬ (6 : Int32) ≤ v) : v.toInt < 6 ∧ vp_in v 6 ∧ (v + 1).toInt = v.toInt + 1 := by
  rw [Int32.le_iff_toInt_le] at h6
  have e6 : (6 : Int32).toInt = 6 := rfl
  rw [e6] at h6
  refine ⟨by omega, vp_in_iff.mpr ⟨h0, by omega⟩, ?_⟩
  rw [Int32.toInt_add]
  have e1 : (1 : Int32).toInt = 1 := rfl
  rw [e1]
  apply Int.bmod_eq_of_le <;> omega
theorem ok_countWholeOnes_L4 (u : ky_BS) : ∀ (n : Nat) (v1 v2 : Int32), 0 ≤ v2.toInt → 6 < v2.toInt + n → v2.toInt ≤ 6 → fk_X6_countWholeOnes_L4 n u v1 v2 := by
  intro n
  induction n with
  | zero => intro v1 v2 h0 h1 h2; exact absurd h1 (by omega)
  | succ n ih =>
    intro v1 v2 h0 h1 h2
    rw [fk_X6_countWholeOnes_L4]
    refine ⟨fun _ => trivial, fun h6 => ?_⟩
    obtain ⟨k1, k2, k3⟩ := ok_i1 h0 h6
    exact ⟨k2, fun _ => ih _ _ (by omega) (by omega) (by omega), fun _ => ih _ _ (by omega) (by omega) (by omega)⟩
theorem ok_countWholeOnes (u : ky_BS) : fk_X6_countWholeOnes u := ⟨ok_countWholeOnes_L4 u 7 _ _ (by decide) (by decide) (by decide), trivial⟩
theorem ok_firstOfAll_L9 (u : ky_BS) : ∀ (n : Nat) (v1 : Int64) (v3 : Int32), 0 ≤ v3.toInt → 6 < v3.toInt + n → v3.toInt ≤ 6 → fk_X6_firstOfAll_L9 n u v1 v3 := by
  intro n
  induction n with
  | zero => intro v1 v3 h0 h1 h2; exact absurd h1 (by omega)
  | succ n ih =>
    intro v1 v3 h0 h1 h2
    rw [fk_X6_firstOfAll_L9]
    refine ⟨fun _ => trivial, fun h6 => ?_⟩
    obtain ⟨k1, k2, k3⟩ := ok_i1 h0 h6
    exact ⟨k2, ih _ _ (by omega) (by omega) (by omega)⟩
theorem ok_firstOfAll (u : ky_BS) : fk_X6_firstOfAll u := ⟨ok_firstOfAll_L9 u 7 _ _ (by decide) (by decide) (by decide), trivial⟩
theorem ok_lastOfAll_L9 (u : ky_BS) : ∀ (n : Nat) (v1 : Int64) (v3 : Int32), 0 ≤ v3.toInt → 6 < v3.toInt + n → v3.toInt ≤ 6 → fk_X6_lastOfAll_L9 n u v1 v3 := by
  intro n
  induction n with
  | zero => intro v1 v3 h0 h1 h2; exact absurd h1 (by omega)
  | succ n ih =>
    intro v1 v3 h0 h1 h2
    rw [fk_X6_lastOfAll_L9]
    refine ⟨fun _ => trivial, fun h6 => ?_⟩
    obtain ⟨k1, k2, k3⟩ := ok_i1 h0 h6
    exact ⟨k2, ih _ _ (by omega) (by omega) (by omega)⟩
theorem ok_lastOfAll (u : ky_BS) : fk_X6_lastOfAll u := ⟨ok_lastOfAll_L9 u 7 _ _ (by decide) (by decide) (by decide), trivial⟩
theorem ok_placeOf_L5 (u : ky_BS) (a : Int64) : ∀ (n : Nat) (v3 : Int32) (v4 : Int32), 0 ≤ v4.toInt → 6 < v4.toInt + n → v4.toInt ≤ 6 → fk_X6_placeOf_L5 n u a v3 v4 := by
  intro n
  induction n with
  | zero => intro v3 v4 h0 h1 h2; exact absurd h1 (by omega)
  | succ n ih =>
    intro v3 v4 h0 h1 h2
    rw [fk_X6_placeOf_L5]
    refine ⟨fun _ => trivial, fun h6 => ?_⟩
    obtain ⟨k1, k2, k3⟩ := ok_i1 h0 h6
    exact ⟨k2, fun _ => ih _ _ (by omega) (by omega) (by omega), fun _ => ih _ _ (by omega) (by omega) (by omega)⟩
theorem ok_placeOf (a : Int64) (u : ky_BS) : fk_X6_placeOf a u := ⟨ok_placeOf_L5 u a 7 _ _ (by decide) (by decide) (by decide), trivial⟩
theorem ok_countOf (a : Int32) (u : ky_BS) : fk_X6_countOf a u := ⟨⟨fun _ => trivial, fun _ => ⟨fun _ => trivial, fun _ => ⟨fun _ => trivial, fun _ => ⟨ok_countWholeOnes u, trivial⟩⟩⟩⟩, trivial⟩
theorem ok_X6_house (a : Int32) (u : ky_BS) : fk_X6_house a u := ⟨⟨ok_countOf a u, trivial⟩, trivial⟩
theorem ok_X6_place (a : Int32) (u : ky_BS) : fk_X6_place a u := ⟨⟨ok_placeOf _ u, trivial⟩, trivial⟩
theorem ok_placeNow_L14 (a : Int32) (w : ky_MV) : ∀ (n : Nat) (v2 : Int32) (v5 : Int32), 0 ≤ v5.toInt → 6 < v5.toInt + n → v5.toInt ≤ 6 → fk_X9_placeNow_L14 a w n v2 v5 := by
  intro n
  induction n with
  | zero => intro v2 v5 h0 h1 h2; exact absurd h1 (by omega)
  | succ n ih =>
    intro v2 v5 h0 h1 h2
    rw [fk_X9_placeNow_L14]
    refine ⟨fun _ => trivial, fun h6 => ?_⟩
    obtain ⟨k1, k2, k3⟩ := ok_i1 h0 h6
    exact ⟨k2, fun _ => ih _ _ (by omega) (by omega) (by omega), fun _ => ih _ _ (by omega) (by omega) (by omega)⟩
theorem ok_placeNow (a : Int32) (w : ky_MV) : fk_X9_placeNow a w := ⟨ok_placeNow_L14 a w 7 _ _ (by decide) (by decide) (by decide), trivial⟩
theorem ok_houseNow_L14 (a : Int32) (w : ky_MV) : ∀ (n : Nat) (v2 : Int32) (v5 : Int32), 0 ≤ v5.toInt → 6 < v5.toInt + n → v5.toInt ≤ 6 → fk_X9_houseNow_L14 a w n v2 v5 := by
  intro n
  induction n with
  | zero => intro v2 v5 h0 h1 h2; exact absurd h1 (by omega)
  | succ n ih =>
    intro v2 v5 h0 h1 h2
    rw [fk_X9_houseNow_L14]
    refine ⟨fun _ => trivial, fun h6 => ?_⟩
    obtain ⟨k1, k2, k3⟩ := ok_i1 h0 h6
    exact ⟨k2, ih _ _ (by omega) (by omega) (by omega)⟩
theorem ok_houseNow (a : Int32) (w : ky_MV) : fk_X9_houseNow a w := ⟨ok_houseNow_L14 a w 7 _ _ (by decide) (by decide) (by decide), trivial⟩
