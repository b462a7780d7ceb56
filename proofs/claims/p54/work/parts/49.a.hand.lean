/-! walk: so many times the next one -/
def ky_wkit : Nat → Int32 → Int32 × Int64 → Int32 × Int64
  | 0, _, v => v
  | k + 1, d, v => fn_X8_next d (ky_wkit k d v)
def fn_X9_walk (a1 a2 : Int32) (w : ky_MV) : Int32 × ky_MV :=
  if jst (fn_X9_isNo a1) = 0 then
    (if jrr (jrt (if fn_X9_isOf a2 (-40) 40 = 0 then 1 else 0) 2 (jst (fn_X9_isNo a1))) = 0 then
      fn_X9_give a1 (ky_wkit (jiabs a2).toInt.toNat (if (0 : Int32) ≤ a2 then 0 else 1) (w.2.2.2.2 a1.toNatClampNeg)) (jrt (if fn_X9_isOf a2 (-40) 40 = 0 then 1 else 0) 2 (jst (fn_X9_isNo a1)), w.2.1, w.2.2.1, w.2.2.2.1, w.2.2.2.2)
    else (0, (jrt (if fn_X9_isOf a2 (-40) 40 = 0 then 1 else 0) 2 (jst (fn_X9_isNo a1)), w.2.1, w.2.2.1, w.2.2.2.1, w.2.2.2.2)))
  else (0, (jst (fn_X9_isNo a1), w.2.1, w.2.2.1, w.2.2.2.1, w.2.2.2.2))
theorem ky_wk1 {x : Int32} {k : Nat} (hk : k ≤ 40) : x ≤ nI k ↔ x.toInt.toNat ≤ k := by
  rw [Int32.le_iff_toInt_le, nI_toInt (by omega)]
  omega
theorem ky_wk40 {a : Int32} (h : ¬ fn_X9_isOf a (-40) 40 = 0) : (jiabs a).toInt.toNat ≤ 40 := by
  have h3 : ¬ a < -40 := by
    intro z
    apply h
    unfold fn_X9_isOf
    rw [if_pos z]
  have h4 : ¬ (40 : Int32) < a := by
    intro z
    apply h
    unfold fn_X9_isOf
    rw [if_neg h3, if_pos z]
  rw [Int32.lt_iff_toInt_lt] at h3 h4
  rw [show (-40 : Int32).toInt = -40 from by decide] at h3
  rw [show (40 : Int32).toInt = 40 from by decide] at h4
  unfold jiabs
  split
  · omega
  · rw [Int32.toInt_sub, show (0 : Int32).toInt = 0 from rfl, Int.bmod_eq_of_le (by omega) (by omega)]
    omega
theorem ky_wkno {j k : Int32} (hj : j = 0) (hk : k = jrt 1 2 j) (h : jrr k = 0) : False := by
  subst hj
  subst hk
  revert h
  decide
