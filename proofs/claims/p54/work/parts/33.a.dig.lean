/-! how many decimal digits -/
def ky_dg : Nat → Nat → Nat
  | 0, _ => 1
  | n + 1, v => if v < 10 then 1 else ky_dg n (v / 10) + 1
def ky_d (v : Nat) : Nat := ky_dg 30 v
theorem ky_dgA : ∀ (n k v : Nat), 10 ^ k ≤ v → v < 10 ^ (k + 1) → k ≤ n → ky_dg n v = k + 1 := by
  intro n
  induction n with
  | zero => intro k v h1 h2 h3; obtain rfl : k = 0 := by omega
            rfl
  | succ n ih =>
    intro k v h1 h2 h3
    rw [ky_dg]
    cases k with
    | zero => rw [if_pos (by simpa using h2)]
    | succ k =>
      have e1 : 10 ^ (k + 1) = 10 * 10 ^ k := by rw [Nat.pow_succ, Nat.mul_comm]
      have e2 : 10 ^ (k + 1 + 1) = 10 * 10 ^ (k + 1) := by rw [Nat.pow_succ, Nat.mul_comm]
      have e3 : 0 < 10 ^ k := Nat.pow_pos (by decide)
      rw [if_neg (by omega), ih k (v / 10) (by omega) (by omega) (by omega)]
theorem ky_dg1 (n v : Nat) : 1 ≤ ky_dg n v := by
  cases n with
  | zero => exact Nat.le_refl _
  | succ n => rw [ky_dg]; split <;> omega
theorem ky_dgL : ∀ (n k v : Nat), v < 10 ^ (k + 1) → ky_dg n v ≤ k + 1 := by
  intro n
  induction n with
  | zero => intro k v h; show 1 ≤ k + 1; omega
  | succ n ih =>
    intro k v h
    rw [ky_dg]
    split
    · omega
    · rename_i hv
      cases k with
      | zero => exact absurd h (by simpa using hv)
      | succ k =>
        have e2 : 10 ^ (k + 1 + 1) = 10 * 10 ^ (k + 1) := by rw [Nat.pow_succ, Nat.mul_comm]
        have := ih k (v / 10) (by omega)
        omega
theorem ky_dgC : ∀ (n v : Nat), v < 10 ^ (n + 1) → ky_dg (n + 1) v = ky_dg n v := by
  intro n
  induction n with
  | zero =>
    intro v h
    show (if v < 10 then 1 else ky_dg 0 (v / 10) + 1) = 1
    rw [if_pos (by simpa using h)]
  | succ n ih =>
    intro v h
    rw [ky_dg]
    conv => rhs; rw [ky_dg]
    have e2 : 10 ^ (n + 1 + 1) = 10 * 10 ^ (n + 1) := by rw [Nat.pow_succ, Nat.mul_comm]
    split
    · rfl
    · rw [ih (v / 10) (by omega)]
theorem ky_dge : (10 : Nat) ^ 20 = 100000000000000000000 := by decide
theorem ky_d100 {v : Nat} (h : 100 ≤ v) (hv : v < 10 ^ 20) : ky_d v = ky_d (v / 100) + 2 := by
  have h2 : v / 100 < 10 ^ 29 := Nat.lt_of_le_of_lt (Nat.div_le_self _ _) (Nat.lt_trans hv (by decide))
  have h3 : v / 100 < 10 ^ 30 := Nat.lt_trans h2 (by decide)
  unfold ky_d
  rw [ky_dgC 29 (v / 100) h3, ky_dgC 28 (v / 100) h2]
  rw [show (30 : Nat) = 29 + 1 from rfl, ky_dg, if_neg (by omega), show (29 : Nat) = 28 + 1 from rfl, ky_dg, if_neg (by omega), Nat.div_div_eq_div_mul]
theorem ky_d10 {v : Nat} (h : v < 10) : ky_d v = 1 := by
  unfold ky_d
  rw [show (30 : Nat) = 29 + 1 from rfl, ky_dg, if_pos h]
theorem ky_d99 {v : Nat} (h : ¬ v < 10) (h2 : v < 100) : ky_d v = 2 := ky_dgA 30 1 v (by omega) (by simpa using h2) (by decide)
def ky_szI (x : Int32) : Nat := ky_d x.toInt.natAbs + (if x < 0 then 1 else 0)
def ky_szJ (x : Int64) : Nat := ky_d x.toInt.natAbs + (if x < 0 then 1 else 0)
theorem ky_lo {a lo hi k : Nat} (h1 : lo ≤ a) (h2 : a < hi) (hlo : lo = 10 ^ k) (hhi : hi = 10 ^ (k + 1)) (hk : k ≤ 30) : ky_d a = k + 1 := ky_dgA 30 k a (hlo ▸ h1) (hhi ▸ h2) hk
theorem ky_szI_of {x e : Int32} {a k d : Nat} (ha : x.toInt.natAbs = a) (hk : ky_d a = k) (hd : (if x < 0 then 1 else 0) = d) (he : e = nI (k + d)) : some (Value.int e) = some (Value.int (nI (ky_szI x))) := by
  unfold ky_szI
  rw [ha, hk, hd, he]
theorem ky_szJ_of {x : Int64} {e : Int32} {a k d : Nat} (ha : x.toInt.natAbs = a) (hk : ky_d a = k) (hd : (if x < 0 then 1 else 0) = d) (he : e = nI (k + d)) : some (Value.int e) = some (Value.int (nI (ky_szJ x))) := by
  unfold ky_szJ
  rw [ha, hk, hd, he]
theorem ky_szI_le (x : Int32) : 1 ≤ ky_szI x ∧ ky_szI x ≤ 11 := by
  have h1 := Int32.le_toInt x
  have h2 := Int32.toInt_lt x
  have h3 := ky_dg1 30 x.toInt.natAbs
  have h4 := ky_dgL 30 9 x.toInt.natAbs (by omega)
  unfold ky_szI ky_d
  split <;> omega
theorem ky_szJ_le (x : Int64) : 1 ≤ ky_szJ x ∧ ky_szJ x ≤ 20 := by
  have h1 := Int64.le_toInt x
  have h2 := Int64.toInt_lt x
  have h3 := ky_dg1 30 x.toInt.natAbs
  have h4 := ky_dgL 30 18 x.toInt.natAbs (by omega)
  unfold ky_szJ ky_d
  split <;> omega
theorem ky_posI {x : Int32} (h : ¬ x < 0) : 0 ≤ x.toInt ∧ (-(x)).toInt = -x.toInt := by
  have h0 : 0 ≤ x.toInt := by
    have := Int32.not_lt.mp h
    simpa using Int32.le_iff_toInt_le.mp this
  have h2 := Int32.toInt_lt x
  refine ⟨h0, ?_⟩
  rw [Int32.toInt_neg]
  apply Int.bmod_eq_of_le <;> omega
theorem ky_negI {x : Int32} (h : x < 0) : x.toInt < 0 := by simpa using Int32.lt_iff_toInt_lt.mp h
theorem ky_posJ {x : Int64} (h : ¬ x < 0) : 0 ≤ x.toInt ∧ (-(x)).toInt = -x.toInt := by
  have h0 : 0 ≤ x.toInt := by
    have := Int64.not_lt.mp h
    simpa using Int64.le_iff_toInt_le.mp this
  have h2 := Int64.toInt_lt x
  refine ⟨h0, ?_⟩
  rw [Int64.toInt_neg]
  apply Int.bmod_eq_of_le <;> omega
theorem ky_negJ {x : Int64} (h : x < 0) : x.toInt < 0 := by simpa using Int64.lt_iff_toInt_lt.mp h
