/-! texts of numbers -/
abbrev ky_WZ (G : ky_G) (u : Nat × Nat × Nat × (Nat → Int32)) : va_W := [(u.1, .inr (7, [.ref u.2.1, .int 0, .int 0, .int 0])), (u.2.1, .inl (G.2.1 0, u.2.2.1, .inl u.2.2.2))]
theorem ky_high0 {x : Int64} (h : (jlshr x ((52 : Int32))).toInt32 = 0) : 0 ≤ x.toInt ∧ x.toInt < 2 ^ 52 := by
  have h1 := Int64.le_toInt x
  have h2 := Int64.toInt_lt x
  have e : (jlshr x ((52 : Int32))).toInt = x.toInt >>> 52 := by
    show (x.toBitVec.sshiftRight ((((52 : Int32).toInt64 &&& 63).toBitVec).smod 64).toNat).toInt = _
    rw [BitVec.toInt_sshiftRight]
    rfl
  have h3 : (jlshr x ((52 : Int32))).toInt32.toInt = 0 := by rw [h]; rfl
  rw [Int64.toInt_toInt32, e, Int.shiftRight_eq_div_pow] at h3
  have h4 : x.toInt / (2 ^ 52 : Nat) = 0 := by
    have h5 : (-2048 : Int) ≤ x.toInt / (2 ^ 52 : Nat) ∧ x.toInt / (2 ^ 52 : Nat) < 2048 := by omega
    rw [Int.bmod_eq_of_le (by omega) (by omega)] at h3
    exact h3
  omega
theorem ky_many_pos {v : Int32 × Int64} (h : ¬ lg_cmp v.2 0 = 0) : ∃ k : Nat, 1 ≤ k ∧ k < 2 ^ 53 ∧ fn_X8_many v = lN k := by
  have hb := ky_many_nn v
  obtain ⟨k, hk, e⟩ := pk_lOf (ky_nnJ hb.1)
  refine ⟨k, ?_, ?_, e⟩
  · have hne : ¬ k = 0 := by
      intro z
      subst z
      have e0 : (fn_X8_many v).toInt = 0 := by rw [e]; rfl
      have hl := ky_low_nn v.2
      unfold fn_X8_many fn_X8_low at e0
      split at e0
      · rename_i hh
        unfold fn_X8_high at hh
        have hr := ky_high0 hh
        obtain ⟨j, hj, ej⟩ := pk_lOf (ky_nnJ hr.1)
        rw [ej, pk_lT hj] at hr
        have em : (lN j &&& 4503599627370495) = lN j := by
          have := wb_mask (n := j) (by omega) (k := 52) (by decide)
          rw [Nat.mod_eq_of_lt (by omega)] at this
          exact this
        rw [ej, em, pk_lT hj] at e0
        have : j = 0 := by omega
        subst this
        apply h
        rw [ej]
        decide
      · rw [Int64.toInt_add, show (4503599627370496 : Int64).toInt = 4503599627370496 from rfl, Int.bmod_eq_of_le (by omega) (by omega)] at e0
        omega
    omega
  · rw [e, pk_lT hk] at hb
    omega
theorem ky_half {v : Nat} (hv : v < 2 ^ 63) : lN v / ((2 : Int64)) = lN (v / 2) := pk_lDiv (b := 2) hv (by decide) (by decide)
theorem ky_even {v : Nat} (hv : v < 2 ^ 63) (h : lg_cmp ((lN v) - (lN v) / ((2 : Int64)) * ((2 : Int64))) 0 = 0) : v % 2 = 0 := by
  have h2 := (lg_cmp_eq _ _).mp h
  have h3 : lN v - lN v / lN 2 * lN 2 = lN (v % 2) := pk_lRem hv (by decide) (by decide)
  have h4 : lN (v % 2) = lN 0 := h3.symm.trans h2
  exact (pk_lEQ (by omega) (by decide)).mp h4
theorem ky_lNsz {v : Nat} (hv : v < 2 ^ 63) : ky_szJ (lN v) ≤ 19 := ky_szJ_nn (by rw [pk_lT hv]; exact Int.natCast_nonneg _)
theorem ky_gp (a m q : Nat) : a + ky_gc m q ≤ a + 1 := by have := (ky_gmost m q).1; omega
theorem ky_gp2 (a m q : Nat) : a + ky_gs m q ≤ a + 34 := by have := (ky_gmost m q).2; omega
