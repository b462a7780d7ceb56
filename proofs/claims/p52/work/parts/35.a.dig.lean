/-! digits, one by one -/
theorem ky_pm1 {c : Nat} (h : 1 ≤ c) : nI c + Int32.ofInt (-1) = nI (c - 1) := by
  obtain ⟨k, rfl⟩ : ∃ k, c = k + 1 := ⟨c - 1, by omega⟩
  exact pk_m1 k
theorem ky_tdiv (v : Nat) : (-(v : Int)).tdiv 100 = -((v / 100 : Nat) : Int) := by
  rw [Int.neg_tdiv]
  rfl
theorem ky_div100I {x : Int32} {v : Nat} (hv : x.toInt = -(v : Int)) : (x / 100).toInt = -((v / 100 : Nat) : Int) := by
  have h1 := Int32.le_toInt x
  have h2 := Int32.toInt_lt x
  rw [Int32.toInt_div, hv, show (100 : Int32).toInt = 100 from rfl, ky_tdiv]
  apply Int.bmod_eq_of_le <;> omega
theorem ky_div100J {x : Int64} {v : Nat} (hv : x.toInt = -(v : Int)) : (x / 100).toInt = -((v / 100 : Nat) : Int) := by
  have h1 := Int64.le_toInt x
  have h2 := Int64.toInt_lt x
  rw [Int64.toInt_div, hv, show (100 : Int64).toInt = 100 from rfl, ky_tdiv]
  apply Int.bmod_eq_of_le <;> omega
theorem ky_rem100I {x : Int32} {v : Nat} (hv : x.toInt = -(v : Int)) : vp_in ((x / 100) * 100 - x) 100 := by
  have h1 := Int32.le_toInt x
  have h2 := Int32.toInt_lt x
  have h3 : ((x / 100) * 100 - x).toInt = ((v % 100 : Nat) : Int) := by
    rw [Int32.toInt_sub, Int32.toInt_mul, ky_div100I hv, hv, show (100 : Int32).toInt = 100 from rfl, Int.bmod_eq_of_le (n := -((v / 100 : Nat) : Int) * 100) (by omega) (by omega)]
    rw [show -((v / 100 : Nat) : Int) * 100 - -(v : Int) = ((v % 100 : Nat) : Int) by omega]
    apply Int.bmod_eq_of_le <;> omega
  exact vp_in_iff.mpr ⟨by omega, by omega⟩
theorem ky_rem100J {x : Int64} {v : Nat} (hv : x.toInt = -(v : Int)) : vp_in ((x / 100) * 100 - x).toInt32 100 := by
  have h1 := Int64.le_toInt x
  have h2 := Int64.toInt_lt x
  have h3 : ((x / 100) * 100 - x).toInt = ((v % 100 : Nat) : Int) := by
    rw [Int64.toInt_sub, Int64.toInt_mul, ky_div100J hv, hv, show (100 : Int64).toInt = 100 from rfl, Int.bmod_eq_of_le (n := -((v / 100 : Nat) : Int) * 100) (by omega) (by omega)]
    rw [show -((v / 100 : Nat) : Int) * 100 - -(v : Int) = ((v % 100 : Nat) : Int) by omega]
    apply Int.bmod_eq_of_le <;> omega
  have h4 : ((x / 100) * 100 - x).toInt32.toInt = ((v % 100 : Nat) : Int) := by
    rw [Int64.toInt_toInt32, h3]
    apply Int.bmod_eq_of_le <;> omega
  exact vp_in_iff.mpr ⟨by omega, by omega⟩
theorem ky_ge100I {x : Int32} {v : Nat} (hv : x.toInt = -(v : Int)) (h : ¬ (-100 : Int32) < x) : 100 ≤ v := by
  rw [Int32.lt_iff_toInt_lt, show (-100 : Int32).toInt = -100 from by decide] at h
  omega
theorem ky_lt100I {x : Int32} {v : Nat} (hv : x.toInt = -(v : Int)) (h : (-100 : Int32) < x) : v < 100 := by
  rw [Int32.lt_iff_toInt_lt, show (-100 : Int32).toInt = -100 from by decide] at h
  omega
theorem ky_ge10I {x : Int32} {v : Nat} (hv : x.toInt = -(v : Int)) (h : ¬ (-9 : Int32) ≤ x) : ¬ v < 10 := by
  rw [Int32.le_iff_toInt_le, show (-9 : Int32).toInt = -9 from by decide] at h
  omega
theorem ky_neg100I {x : Int32} {v : Nat} (hv : x.toInt = -(v : Int)) (h : v < 100) : vp_in (-x) 100 := by
  refine vp_in_iff.mpr ?_
  rw [Int32.toInt_neg, hv, Int.bmod_eq_of_le (by omega) (by omega)]
  omega
theorem ky_absI {x : Int32} : (x < 0 → x.toInt = -(x.toInt.natAbs : Int)) ∧ (¬ x < 0 → (-(x)).toInt = -(x.toInt.natAbs : Int)) := by
  refine ⟨fun h => ?_, fun h => ?_⟩
  · have := ky_negI h; omega
  · have := ky_posI h; omega
theorem ky_absJ {x : Int64} : (x < 0 → x.toInt = -(x.toInt.natAbs : Int)) ∧ (¬ x < 0 → (-(x)).toInt = -(x.toInt.natAbs : Int)) := by
  refine ⟨fun h => ?_, fun h => ?_⟩
  · have := ky_negJ h; omega
  · have := ky_posJ h; omega
theorem ky_vI {x : Int32} {v : Nat} (hv : x.toInt = -(v : Int)) : v < 10 ^ 20 := by
  have h1 := Int32.le_toInt x
  omega
theorem ky_vJ {x : Int64} {v : Nat} (hv : x.toInt = -(v : Int)) : v < 10 ^ 20 := by
  have h1 := Int64.le_toInt x
  omega
theorem ky_gJ {x : Int64} {v : Nat} (hv : x.toInt = -(v : Int)) (h : ¬ (0 : Int32) < lg_cmp x (-2147483648)) : 100 ≤ v := by
  have h2 : ¬ (-2147483648 : Int64) < x := fun z => h ((lg_cmp_gt _ _).mpr z)
  rw [Int64.lt_iff_toInt_lt, show (-2147483648 : Int64).toInt = -2147483648 from by decide] at h2
  omega
theorem ky_lJ {x : Int64} {v : Nat} (hv : x.toInt = -(v : Int)) (h : (0 : Int32) < lg_cmp x (-2147483648)) : x.toInt32.toInt = -(v : Int) := by
  have h2 : (-2147483648 : Int64) < x := (lg_cmp_gt _ _).mp h
  rw [Int64.lt_iff_toInt_lt, show (-2147483648 : Int64).toInt = -2147483648 from by decide] at h2
  rw [Int64.toInt_toInt32, hv]
  apply Int.bmod_eq_of_le <;> omega
theorem ky_d1 (v : Nat) : 1 ≤ ky_d v := ky_dg1 30 v
