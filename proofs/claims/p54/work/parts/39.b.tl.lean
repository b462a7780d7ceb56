/-- how many signs a number's text has -/
def ky_tl (a : Int64) : Nat := (if fn_X0_isDownOne a = 0 then 0 else 1) + (if lg_cmp (fn_X0_sizeIn a) 0 = 0 then 1 else if fn_X0_isEndlessOne a = 0 then (ky_szJ (ky_od 7 (fn_X0_factorIn a) (fn_X0_powerIn a)).1 + 3 + ky_szI (ky_od 7 (fn_X0_factorIn a) (fn_X0_powerIn a)).2) else 1)
theorem ky_low_nn (a : Int64) : 0 ≤ (a &&& 4503599627370495).toInt ∧ (a &&& 4503599627370495).toInt < 2 ^ 52 := by
  obtain ⟨n, hn, rfl⟩ := wb_of a
  have e : (lN n &&& 4503599627370495) = lN (n % 2 ^ 52) := wb_mask hn (k := 52) (by decide)
  have h : n % 2 ^ 52 < 2 ^ 52 := Nat.mod_lt _ (by decide)
  rw [e, pk_lT (by omega)]
  omega
theorem ky_fac_nn (a : Int64) : 0 ≤ (fn_X0_factorIn a).toInt := by
  have h := ky_low_nn a
  unfold fn_X0_factorIn
  split
  · exact h.1
  · show 0 ≤ ((a &&& 4503599627370495) + 4503599627370496).toInt
    rw [Int64.toInt_add, show (4503599627370496 : Int64).toInt = 4503599627370496 from rfl, Int.bmod_eq_of_le (by omega) (by omega)]
    omega
theorem ky_tl3 (a : Int64) : ky_szJ (ky_od 7 (fn_X0_factorIn a) (fn_X0_powerIn a)).1 ≤ 19 ∧ 1 ≤ ky_szI (ky_od 7 (fn_X0_factorIn a) (fn_X0_powerIn a)).2 ∧ ky_szI (ky_od 7 (fn_X0_factorIn a) (fn_X0_powerIn a)).2 ≤ 11 :=
  ⟨ky_szJ_nn (ky_od_nn 7 _ _ (by decide) (ky_fac_nn a)), ky_szI_le _⟩
theorem ky_tl_le (a : Int64) : ky_tl a ≤ 34 := by
  have h := ky_tl3 a
  unfold ky_tl
  split <;> (repeat' split) <;> omega
