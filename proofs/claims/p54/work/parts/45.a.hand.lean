/-! the reference's own preconditions hold: nearest comes to an end for what is not below 0 -/
theorem ky_nnJ {x : Int64} (h : 0 ≤ x.toInt) : ¬ x < 0 := fun z => by have := ky_negJ z; omega
theorem ok_nearest_L14 : ∀ (n : Nat) (v4 v6 : Int64), 1 ≤ v4.toInt → 2 ^ 52 ≤ v4.toInt * 2 ^ n → fk_X9_nearest_L14 (n + 1) v4 v6 := by
  intro n
  induction n with
  | zero =>
    intro v4 v6 h1 h2
    rw [fk_X9_nearest_L14]
    refine ⟨fun _ => ?_, fun h => ?_⟩
    · repeat' first | exact trivial | refine ⟨fun _ => ?_, fun _ => ?_⟩
    · exfalso
      apply h
      rw [lg_cmp_ge, Int64.le_iff_toInt_le, show (4503599627370496 : Int64).toInt = 4503599627370496 from rfl]
      omega
  | succ n ih =>
    intro v4 v6 h1 h2
    rw [fk_X9_nearest_L14]
    refine ⟨fun _ => ?_, fun h => ?_⟩
    · repeat' first | exact trivial | refine ⟨fun _ => ?_, fun _ => ?_⟩
    · have h3 : v4.toInt < 4503599627370496 := by
        have : ¬ (4503599627370496 : Int64) ≤ v4 := fun z => h ((lg_cmp_ge _ _).mpr z)
        rw [Int64.le_iff_toInt_le, show (4503599627370496 : Int64).toInt = 4503599627370496 from rfl] at this
        omega
      have h4 : ((v4) * ((2 : Int64))).toInt = v4.toInt * 2 := by
        rw [Int64.toInt_mul, show (2 : Int64).toInt = 2 from rfl]
        apply Int.bmod_eq_of_le <;> omega
      refine ih _ _ (by rw [h4]; omega) ?_
      rw [h4, Int.mul_assoc, show (2 : Int) * 2 ^ n = 2 ^ (n + 1) by rw [Int.pow_succ, Int.mul_comm]]
      exact h2
theorem ok_nearest {a b : Int64} (h : 0 ≤ a.toInt) : fk_X9_nearest a b := by
  refine ⟨⟨fun _ => trivial, fun hz => ?_⟩, trivial⟩
  have h1 : ¬ a.toInt = 0 := fun z => hz ((lg_cmp_eq _ _).mpr (Int64.toInt_inj.mp (by rw [z]; rfl)))
  exact ok_nearest_L14 63 a b (by omega) (by omega)
theorem ky_many_nn (v : Int32 × Int64) : 0 ≤ (fn_X8_many v).toInt ∧ (fn_X8_many v).toInt < 2 ^ 53 := by
  have h := ky_low_nn v.2
  unfold fn_X8_many fn_X8_low
  split
  · omega
  · rw [Int64.toInt_add, show (4503599627370496 : Int64).toInt = 4503599627370496 from rfl, Int.bmod_eq_of_le (by omega) (by omega)]
    omega
theorem ky_whole_nn (v : Int32 × Int64) : 0 ≤ (fn_X8_whole v).toInt ∧ (fn_X8_whole v).toInt < 2 ^ 53 := by
  have h := ky_many_nn v
  unfold fn_X8_whole
  split
  · obtain ⟨k, hk, e⟩ := pk_lOf (ky_nnJ h.1)
    rw [e] at h ⊢
    rw [pk_lT hk] at h
    unfold jlshr
    rw [pf_shr rfl (by omega), pk_lT (Nat.lt_of_le_of_lt (Nat.div_le_self _ _) hk)]
    have := Nat.div_le_self k (2 ^ (((-fn_X8_power v).toInt64 &&& 63).toBitVec.smod 64).toNat)
    generalize k / 2 ^ (((-fn_X8_power v).toInt64 &&& 63).toBitVec.smod 64).toNat = q at this ⊢
    omega
  · decide
theorem ky_whole1 (v : Int32 × Int64) : 0 ≤ ((fn_X8_whole v) + (((1 : Int32)).toInt64)).toInt ∧ 0 ≤ ((fn_X8_whole v) + (((0 : Int32)).toInt64)).toInt := by
  have h := ky_whole_nn v
  refine ⟨?_, ?_⟩
  · rw [Int64.toInt_add, show ((1 : Int32)).toInt64.toInt = 1 from by decide, Int.bmod_eq_of_le (by omega) (by omega)]
    omega
  · rw [Int64.toInt_add, show ((0 : Int32)).toInt64.toInt = 0 from by decide, Int.bmod_eq_of_le (by omega) (by omega)]
    omega
theorem ok_X8_step (v : Int32 × Int64) : fk_X8_step v := ⟨⟨fun _ => ⟨ok_nearest (by decide), trivial⟩, fun _ => trivial⟩, trivial⟩
theorem ok_X8_times (a : Int64) (v : Int32 × Int64) : fk_X8_times a v := ⟨⟨fun _ => trivial, fun _ => ⟨fun _ => ⟨ok_nearest (ky_many_nn v).1, trivial⟩, fun _ => trivial⟩⟩, trivial⟩
theorem ok_X8_sign (v : Int32 × Int64) : fk_X8_sign v := ⟨⟨fun _ => trivial, fun _ => ⟨ok_nearest (by decide), trivial⟩⟩, trivial⟩
theorem ok_X8_taken (a : Int32) (v : Int32 × Int64) : fk_X8_taken a v := by
  have h1 := ok_nearest (b := 0) (ky_whole1 v).1
  have h2 := ok_nearest (b := 0) (ky_whole1 v).2
  exact ⟨⟨fun _ => ⟨fun _ => ⟨fun _ => ⟨fun _ => ⟨h1, trivial⟩, fun _ => ⟨fun _ => ⟨fun _ => ⟨h1, trivial⟩, fun _ => ⟨h2, trivial⟩⟩, fun _ => ⟨h2, trivial⟩⟩⟩, fun _ => ⟨fun _ => ⟨h2, trivial⟩, fun _ => ⟨fun _ => ⟨fun _ => ⟨h1, trivial⟩, fun _ => ⟨h2, trivial⟩⟩, fun _ => ⟨fun _ => ⟨h2, trivial⟩, fun _ => ⟨h1, trivial⟩⟩⟩⟩⟩, fun _ => trivial⟩, fun _ => trivial⟩, trivial⟩
theorem ok_X9_take (a1 a2 a3 : Int32) (w : ky_MV) : fk_X9_take a1 a2 a3 w := ⟨⟨fun _ => ⟨ok_X8_taken _ _, trivial⟩, fun _ => trivial⟩, trivial⟩
theorem ok_X9_floor (a1 a2 : Int32) (w : ky_MV) : fk_X9_floor a1 a2 w := ⟨⟨ok_X9_take _ _ _ _, trivial⟩, trivial⟩
theorem ok_X9_ceil (a1 a2 : Int32) (w : ky_MV) : fk_X9_ceil a1 a2 w := ⟨⟨ok_X9_take _ _ _ _, trivial⟩, trivial⟩
theorem ok_X9_rint (a1 a2 : Int32) (w : ky_MV) : fk_X9_rint a1 a2 w := ⟨⟨ok_X9_take _ _ _ _, trivial⟩, trivial⟩
theorem ok_X9_sign (a1 a2 : Int32) (w : ky_MV) : fk_X9_sign a1 a2 w := ⟨⟨fun _ => ⟨ok_X8_sign _, trivial⟩, fun _ => trivial⟩, trivial⟩
theorem ok_X9_step (a1 a2 : Int32) (w : ky_MV) : fk_X9_step a1 a2 w := ⟨⟨fun _ => ⟨ok_X8_step _, trivial⟩, fun _ => trivial⟩, trivial⟩
theorem ok_X9_unit (a1 a2 : Int32) (w : ky_MV) : fk_X9_unit a1 a2 w := ⟨⟨fun _ => ⟨ok_X8_times _ _, trivial⟩, fun _ => trivial⟩, trivial⟩
theorem ok_X9_times (a1 a2 a3 : Int32) (w : ky_MV) : fk_X9_times a1 a2 a3 w := ⟨⟨fun _ => ⟨ok_X8_times _ _, trivial⟩, fun _ => trivial⟩, trivial⟩
theorem ok_X9_isBack (a1 a2 : Int32) (w : ky_MV) : fk_X9_isBack a1 a2 w := ⟨⟨fun _ => ⟨fun _ => ⟨fun _ => ⟨ok_X8_times _ _, ⟨ok_X8_times _ _, ⟨fun _ => trivial, fun _ => trivial⟩⟩⟩, fun _ => trivial⟩, fun _ => ⟨fun _ => ⟨ok_X8_times _ _, ⟨ok_X8_times _ _, ⟨fun _ => trivial, fun _ => trivial⟩⟩⟩, fun _ => trivial⟩⟩, fun _ => trivial⟩, trivial⟩
theorem ok_X9_power (a1 a2 a3 : Int32) (w : ky_MV) : fk_X9_power a1 a2 a3 w := by
  have h : ∀ b, fk_X9_nearest 1 b := fun b => ok_nearest (by decide)
  exact ⟨⟨fun _ => ⟨fun _ => ⟨fun _ => ⟨h _, trivial⟩, fun _ => trivial⟩, fun _ => ⟨fun _ => ⟨h _, trivial⟩, fun _ => trivial⟩⟩, fun _ => trivial⟩, trivial⟩
theorem ky_toJ (a : Int32) : (a.toInt64).toInt = a.toInt := Int32.toInt_toInt64 a
theorem ok_X9_quarters (a1 a2 : Int32) (w : ky_MV) : fk_X9_quarters a1 a2 w := by
  have h1 : 0 ≤ a2 → fk_X9_nearest ((a2).toInt64) ((-2 : Int64)) := fun z => ok_nearest (by
    rw [ky_toJ]
    simpa using Int32.le_iff_toInt_le.mp z)
  have h2 : ¬ 0 ≤ a2 → fk_X9_nearest (-((a2).toInt64)) ((-2 : Int64)) := fun z => ok_nearest (by
    have h3 := Int32.lt_iff_toInt_lt.mp (Int32.not_le.mp z)
    have h4 := Int32.le_toInt a2
    rw [show (0 : Int32).toInt = 0 from rfl] at h3
    rw [Int64.toInt_neg, ky_toJ, Int.bmod_eq_of_le (by omega) (by omega)]
    omega)
  unfold fk_X9_quarters
  refine ⟨⟨fun _ => ⟨fun c => ⟨fun _ => ⟨h1 c, trivial⟩, fun z => absurd c z⟩, fun c => ⟨fun z => absurd z c, fun _ => ⟨h2 c, trivial⟩⟩⟩, fun _ => trivial⟩, trivial⟩
theorem ok_X9_sampled (a : Int32) : fk_X9_sampled a := ⟨⟨fun _ => trivial, fun _ => ⟨fun _ => trivial, fun _ => ⟨fun _ => trivial, fun _ => ⟨fun _ => trivial, fun _ => ⟨fun _ => ⟨ok_nearest (by decide), trivial⟩, fun _ => ⟨fun _ => ⟨ok_nearest (by decide), trivial⟩, fun _ => ⟨fun _ => ⟨ok_nearest (by decide), trivial⟩, fun _ => ⟨fun _ => ⟨ok_nearest (by decide), trivial⟩, fun _ => ⟨fun _ => ⟨ok_nearest (by decide), trivial⟩, fun _ => ⟨fun _ => ⟨ok_nearest (by decide), trivial⟩, fun _ => ⟨fun _ => ⟨ok_nearest (by decide), trivial⟩, fun _ => ⟨ok_nearest (by decide), trivial⟩⟩⟩⟩⟩⟩⟩⟩⟩⟩⟩⟩, trivial⟩
theorem ok_X9_sample (a1 a2 a3 : Int32) (w : ky_MV) : fk_X9_sample a1 a2 a3 w := ⟨⟨fun _ => ⟨fun _ => ⟨fun _ => ⟨ok_X9_sampled a2, trivial⟩, fun _ => trivial⟩, fun _ => ⟨fun _ => ⟨ok_X9_sampled a2, trivial⟩, fun _ => trivial⟩⟩, fun _ => trivial⟩, trivial⟩
theorem ok_X9_place (a1 : Int32) (w : ky_MV) : fk_X9_place a1 w := ⟨⟨fun _ => ⟨ok_placeNow _ _, trivial⟩, fun _ => trivial⟩, trivial⟩
theorem ky_isOf4 {a : Int32} (h : ¬ fn_X9_isOf a 0 3 = 0) : vp_in a 4 := by
  have h3 : ¬ a < 0 := by
    intro z
    apply h
    unfold fn_X9_isOf
    rw [if_pos z]
  have h4 : ¬ (3 : Int32) < a := by
    intro z
    apply h
    unfold fn_X9_isOf
    rw [if_neg h3, if_pos z]
  rw [Int32.lt_iff_toInt_lt] at h3 h4
  refine vp_in_iff.mpr ⟨?_, ?_⟩
  · have : (0 : Int32).toInt = 0 := rfl
    omega
  · have : (3 : Int32).toInt = 3 := rfl
    omega
theorem ok_X9_house (a1 : Int32) (w : ky_MV) : fk_X9_house a1 w := ⟨⟨fun _ => ⟨fun z => absurd z (by decide), fun _ => trivial⟩, fun c => ⟨fun _ => ⟨ky_isOf4 c, ok_houseNow _ _, trivial⟩, fun _ => trivial⟩⟩, trivial⟩
