theorem ok_i1 {v : Int32} (h0 : 0 ≤ v.toInt) (h6 : ¬ (6 : Int32) ≤ v) : v.toInt < 6 ∧ vp_in v 6 ∧ (v + 1).toInt = v.toInt + 1 := by
  rw [Int32.le_iff_toInt_le] at h6
  have e6 : (6 : Int32).toInt = 6 := rfl
  rw [e6] at h6
  refine ⟨by omega, vp_in_iff.mpr ⟨h0, by omega⟩, ?_⟩
  rw [Int32.toInt_add]
  have e1 : (1 : Int32).toInt = 1 := rfl
  rw [e1]
  apply Int.bmod_eq_of_le <;> omega
theorem ok_countWholeOnes_L4 (u : ky_BS) : ∀ (n : Nat) (v1 v2 : Int32), 0 ≤ v2.toInt → 6 < v2.toInt + n → v2.toInt ≤ 6 → fk_X6_countWholeOnes_L4 n u v1 v2 := by
  intro n
  induction n with
  | zero => intro v1 v2 h0 h1 h2; exact absurd h1 (by omega)
  | succ n ih =>
    intro v1 v2 h0 h1 h2
    rw [fk_X6_countWholeOnes_L4]
    refine ⟨fun _ => trivial, fun h6 => ?_⟩
    obtain ⟨k1, k2, k3⟩ := ok_i1 h0 h6
    exact ⟨k2, fun _ => ih _ _ (by omega) (by omega) (by omega), fun _ => ih _ _ (by omega) (by omega) (by omega)⟩
theorem ok_countWholeOnes (u : ky_BS) : fk_X6_countWholeOnes u := ⟨ok_countWholeOnes_L4 u 7 _ _ (by decide) (by decide) (by decide), trivial⟩
