theorem zr_in (a : Int32) : ((0 : Int32) ≤ a ∧ a < 6 → fn_X9_isNo a = 0 ∧ fn_X6_requireCell a = .inr ((), ())) ∧ (¬ ((0 : Int32) ≤ a ∧ a < 6) → fn_X9_isNo a = 1 ∧ fn_X6_requireCell a = .inl "java/lang/IndexOutOfBoundsException") := by
  have e0 : (0 : Int32).toInt = 0 := rfl
  have e5 : (5 : Int32).toInt = 5 := rfl
  have e6 : (6 : Int32).toInt = 6 := rfl
  unfold fn_X9_isNo fn_X9_isOf fn_X6_requireCell
  simp only [Int32.lt_iff_toInt_lt, Int32.le_iff_toInt_le, e0, e5, e6]
  refine ⟨fun h => ⟨?_, ?_⟩, fun h => ⟨?_, ?_⟩⟩
  · rw [if_neg (show ¬ a.toInt < 0 by omega), if_neg (show ¬ 5 < a.toInt by omega)]
    rfl
  · rw [if_neg (show ¬ a.toInt < 0 by omega), if_pos (show a.toInt < 6 by omega)]
  · by_cases q : a.toInt < 0
    · rw [if_pos q]; rfl
    · rw [if_neg q, if_pos (show 5 < a.toInt by omega)]; rfl
  · by_cases q : a.toInt < 0
    · rw [if_pos q]
    · rw [if_neg q, if_neg (show ¬ a.toInt < 6 by omega)]
/-! longs by their 64 bits as a number -/
theorem se_eq {x y : Int64} (h : x.toBitVec.toNat = y.toBitVec.toNat) : x = y := Int64.toBitVec_inj.mp (BitVec.eq_of_toNat_eq h)
theorem se_and {U m k : Nat} (h : U < 2 ^ 64) (hk : m = 2 ^ k - 1) (h9 : m < 2 ^ 64) : lN U &&& lN m = lN (U % 2 ^ k) := by
  have hl : U % 2 ^ k ≤ U := Nat.mod_le _ _
  refine se_eq ?_
  rw [Int64.toBitVec_and, BitVec.toNat_and, lN_nat h, lN_nat h9, lN_nat (by omega), hk, Nat.and_two_pow_sub_one_eq_mod]
theorem se_size {U : Nat} (h : U < 2 ^ 64) : fn_X0_sizeIn (lN U) = lN (U % 2 ^ 63) := se_and (k := 63) h rfl (by decide)
theorem se_low {U : Nat} (h : U < 2 ^ 64) : fn_X0_lowIn (lN U) = lN (U % 2 ^ 52) := se_and (k := 52) h rfl (by decide)
theorem se_side0 {Z : Nat} : fn_X0_withSide (lN Z) 0 = lN Z := by unfold fn_X0_withSide; rw [if_pos rfl]
theorem se_side1 {Z : Nat} (h : Z < 2 ^ 63) : fn_X0_withSide (lN Z) 1 = lN (2 ^ 63 + Z) := by
  unfold fn_X0_withSide
  rw [if_neg (by decide)]
  refine se_eq ?_
  rw [Int64.toBitVec_or, BitVec.toNat_or, lN_nat (by omega), lN_nat (by omega)]
  show Z ||| 2 ^ 63 = 2 ^ 63 + Z
  have h9 := Nat.two_pow_add_eq_or_of_lt h 1
  rw [Nat.mul_one] at h9
  rw [h9, Nat.or_comm]
theorem se_k1 : ∀ k : Fin 64, ((nI k.val).toInt64.toUInt64 &&& Int64.toUInt64 63).toBitVec % 64 = BitVec.ofNat 64 k.val := by decide +kernel
theorem se_k2 : ∀ k : Fin 64, ((nI k.val).toInt64 &&& 63).toBitVec.smod 64 = BitVec.ofNat 64 k.val := by decide +kernel
/-- the high bits of the board's long, of the reference's -/
theorem se_shr {U : Nat} (k : Nat) (h : U < 2 ^ 64) (hk : k < 64) : jlushr (lN U) (nI k) = lN (U / 2 ^ k) := by
  have hl : U / 2 ^ k ≤ U := Nat.div_le_self _ _
  refine se_eq ?_
  rw [lN_nat (by omega)]
  unfold jlushr
  show ((lN U).toUInt64 >>> ((nI k).toInt64.toUInt64 &&& Int64.toUInt64 63)).toBitVec.toNat = _
  rw [UInt64.toBitVec_shiftRight, se_k1 ⟨k, hk⟩, BitVec.ushiftRight_eq', BitVec.toNat_ushiftRight, BitVec.toNat_ofNat, Nat.mod_eq_of_lt (show k < 2 ^ 64 by omega), Nat.shiftRight_eq_div_pow]
  show (lN U).toBitVec.toNat / _ = _
  rw [lN_nat h]
theorem se_asr {Z : Nat} (k : Nat) (h : Z < 2 ^ 63) (hk : k < 64) : jlshr (lN Z) (nI k) = lN (Z / 2 ^ k) := by
  have hl : Z / 2 ^ k ≤ Z := Nat.div_le_self _ _
  refine se_eq ?_
  rw [lN_nat (by omega)]
  unfold jlshr
  rw [Int64.toBitVec_shiftRight, se_k2 ⟨k, hk⟩, BitVec.sshiftRight_eq', BitVec.toNat_ofNat, Nat.mod_eq_of_lt (show k < 2 ^ 64 by omega), BitVec.sshiftRight_eq_of_msb_false (by rw [BitVec.msb_eq_decide, lN_nat (by omega)]; exact decide_eq_false (by omega)), BitVec.toNat_ushiftRight, Nat.shiftRight_eq_div_pow, lN_nat (by omega)]
theorem se_mod (U : Nat) : (lN U).toBitVec.toNat = U % 2 ^ 64 := by rw [lN_bv, BitVec.toNat_ofNat]
theorem se_shl (U k : Nat) (hk : k < 64) : jlshl (lN U) (nI k) = lN (U * 2 ^ k) := by
  refine se_eq ?_
  unfold jlshl
  rw [Int64.toBitVec_shiftLeft, se_k2 ⟨k, hk⟩, BitVec.shiftLeft_eq', BitVec.toNat_shiftLeft, BitVec.toNat_ofNat, Nat.mod_eq_of_lt (show k < 2 ^ 64 by omega), Nat.shiftLeft_eq, se_mod, se_mod, Nat.mod_mul_mod]
theorem se_andI {u m k : Nat} (h : u < 2 ^ 31) (hk : m = 2 ^ k - 1) (h9 : m < 2 ^ 31) : nI u &&& nI m = nI (u % 2 ^ k) := by
  have hl : u % 2 ^ k ≤ u := Nat.mod_le _ _
  refine Int32.toBitVec_inj.mp (BitVec.eq_of_toNat_eq ?_)
  have e : ∀ a : Nat, a < 2 ^ 31 → (nI a).toBitVec.toNat = a := fun a ha => by
    show (BitVec.ofNat 32 a).toNat = a
    rw [BitVec.toNat_ofNat, Nat.mod_eq_of_lt (by omega)]
  rw [Int32.toBitVec_and, BitVec.toNat_and, e u h, e m h9, e _ (by omega), hk, Nat.and_two_pow_sub_one_eq_mod]
theorem se_high {U : Nat} (h : U < 2 ^ 64) : fn_X0_highIn (lN U) = nI (U / 2 ^ 52 % 2 ^ 11) := by
  unfold fn_X0_highIn
  rw [show (52 : Int32) = nI 52 from rfl, se_shr 52 h (by omega), lN_i, show (2047 : Int32) = nI 2047 from rfl, se_andI (k := 11) (by omega) rfl (by decide)]
theorem se_high8 {s : Int32} {Z : Nat} (h : Z < 2 ^ 63) : fn_X8_high (s, lN Z) = nI (Z / 2 ^ 52) := by
  unfold fn_X8_high
  show (jlshr (lN Z) ((52 : Int32))).toInt32 = _
  rw [show (52 : Int32) = nI 52 from rfl, se_asr 52 h (by omega), lN_i]
theorem se_low8 {s : Int32} {Z : Nat} (h : Z < 2 ^ 63) : fn_X8_low (s, lN Z) = lN (Z % 2 ^ 52) := se_and (k := 52) (show Z < 2 ^ 64 by omega) rfl (by decide)
/-- the whole number in front of the power -/
def se_m (Z : Nat) : Nat := if Z / 2 ^ 52 = 0 then Z % 2 ^ 52 else Z % 2 ^ 52 + 2 ^ 52
theorem se_parts {s Z : Nat} (hs : s < 2) (h : Z < 2 ^ 63) : (s * 2 ^ 63 + Z) % 2 ^ 63 = Z ∧ (s * 2 ^ 63 + Z) % 2 ^ 52 = Z % 2 ^ 52 ∧ (s * 2 ^ 63 + Z) / 2 ^ 52 % 2 ^ 11 = Z / 2 ^ 52 := by
  refine ⟨by omega, by omega, by omega⟩
theorem se_factor {s Z : Nat} (hs : s < 2) (h : Z < 2 ^ 63) : fn_X0_factorIn (lN (s * 2 ^ 63 + Z)) = lN (se_m Z) := by
  obtain ⟨h1, h2, h3⟩ := se_parts hs h
  unfold fn_X0_factorIn se_m
  rw [se_high (by omega), se_low (by omega), h2, h3]
  by_cases q : Z / 2 ^ 52 = 0
  · rw [if_pos (by rw [q]; rfl), if_pos q]
  · rw [if_neg (nI_ne0 (by omega) (by omega)), if_neg q]
    exact lN_add _ _
theorem se_many {s : Int32} {Z : Nat} (h : Z < 2 ^ 63) : fn_X8_many (s, lN Z) = lN (se_m Z) := by
  unfold fn_X8_many se_m
  rw [se_high8 h, se_low8 h]
  by_cases q : Z / 2 ^ 52 = 0
  · rw [if_pos (by rw [q]; rfl), if_pos q]
  · rw [if_neg (nI_ne0 (by omega) (by omega)), if_neg q]
    exact lN_add _ _
theorem se_inj {a b : Nat} (ha : a < 2 ^ 64) (hb : b < 2 ^ 64) : lN a = lN b ↔ a = b := ⟨fun h => by rw [← lN_nat ha, ← lN_nat hb, h], fun h => by rw [h]⟩
theorem se_z {a : Nat} (ha : a < 2 ^ 64) : (lg_cmp (lN a) ((0 : Int64)) = (0 : Int32)) ↔ a = 0 := by
  rw [lg_cmp_eq]
  exact se_inj ha (by decide)
theorem se_nI {a b : Nat} (ha : a < 2 ^ 31) (hb : b < 2 ^ 31) : nI a = nI b ↔ a = b := nI_eq ha hb
theorem se_mlt {Z : Nat} (h : Z < 2 ^ 63) : se_m Z < 2 ^ 53 := by
  unfold se_m
  split <;> omega
def se_E : Nat := 9218868437227405312
theorem se_hm {Z : Nat} (h : Z / 2 ^ 52 ≠ 0) : 2 ^ 52 ≤ se_m Z := by
  unfold se_m
  rw [if_neg h]
  omega
theorem se_ext (a : Int32) : ∃ S : Nat, S < 2 ^ 64 ∧ a.toInt64 = lN S ∧ S % 2 ^ 32 = a.toBitVec.toNat := by
  refine ⟨a.toInt64.toBitVec.toNat, a.toInt64.toBitVec.isLt, se_eq (by rw [lN_nat a.toInt64.toBitVec.isLt]), ?_⟩
  show (a.toBitVec.signExtend 64).toNat % 2 ^ 32 = _
  rw [BitVec.toNat_signExtend]
  have h := a.toBitVec.isLt
  rw [BitVec.toNat_setWidth, Nat.mod_eq_of_lt (show a.toBitVec.toNat < 2 ^ 64 by omega)]
  split <;> omega
theorem se_hi (a : Int32) : jlshl a.toInt64 ((32 : Int32)) = lN (a.toBitVec.toNat * 2 ^ 32) := by
  obtain ⟨S, hS, e, hm⟩ := se_ext a
  rw [e, show (32 : Int32) = nI 32 from rfl, se_shl S 32 (by decide)]
  refine se_eq ?_
  rw [se_mod, se_mod, ← hm]
  omega
theorem se_lo (a : Int32) : a.toInt64 &&& ((4294967295 : Int64)) = lN a.toBitVec.toNat := by
  obtain ⟨S, hS, e, hm⟩ := se_ext a
  rw [e, ← hm]
  exact se_and (k := 32) hS rfl (by decide)
theorem se_or {a b k : Nat} (ha : a * 2 ^ k + b < 2 ^ 64) (hb : b < 2 ^ k) : lN (a * 2 ^ k) ||| lN b = lN (a * 2 ^ k + b) := by
  refine se_eq ?_
  rw [Int64.toBitVec_or, BitVec.toNat_or, lN_nat (by omega), lN_nat (by omega), lN_nat ha, Nat.mul_comm a, Nat.two_pow_add_eq_or_of_lt hb]
def se_T (a b : Int32) : Nat := a.toBitVec.toNat * 2 ^ 32 + b.toBitVec.toNat
theorem se_Tlt (a b : Int32) : se_T a b < 2 ^ 64 := by
  have h1 := a.toBitVec.isLt
  have h2 := b.toBitVec.isLt
  unfold se_T
  omega
theorem se_V6 (a b : Int32) : (jlshl a.toInt64 ((32 : Int32))) ||| (b.toInt64 &&& ((4294967295 : Int64))) = lN (se_T a b) := by
  rw [se_hi, se_lo]
  exact se_or (k := 32) (se_Tlt a b) b.toBitVec.isLt
theorem se_V9 (a b : Int32) : ((jlshl a.toInt64 ((32 : Int32))) + (b.toInt64 &&& ((4294967295 : Int64)))) &&& ((9223372036854775807 : Int64)) = lN (se_T a b % 2 ^ 63) := by
  rw [se_hi, se_lo, lN_add]
  exact se_and (k := 63) (se_Tlt a b) rfl (by decide)
/-! ints and longs by whole numbers -/
def se_i (k : Int) : Int32 := Int32.ofInt k
def se_l (k : Int) : Int64 := Int64.ofInt k
theorem se_i_nat (n : Nat) : nI n = se_i n := by
  refine Int32.toInt_inj.mp ?_
  unfold nI se_i
  exact congrArg _ (Int32.ofInt_eq_ofNat).symm
theorem se_l_nat (n : Nat) : lN n = se_l n := by
  refine Int64.toInt_inj.mp ?_
  unfold lN se_l
  exact congrArg _ (Int64.ofInt_eq_ofNat).symm
theorem se_i_add (a b : Int) : se_i a + se_i b = se_i (a + b) := (Int32.ofInt_add a b).symm
theorem se_i_sub (a b : Int) : se_i a - se_i b = se_i (a - b) := (Int32.ofInt_sub a b).symm
theorem se_i_neg (a : Int) : - se_i a = se_i (- a) := (Int32.ofInt_neg a).symm
theorem se_l_add (a b : Int) : se_l a + se_l b = se_l (a + b) := (Int64.ofInt_add a b).symm
theorem se_l_sub (a b : Int) : se_l a - se_l b = se_l (a - b) := (Int64.ofInt_sub a b).symm
theorem se_l_neg (a : Int) : - se_l a = se_l (- a) := (Int64.ofInt_neg a).symm
theorem se_i_int {a : Int} (h : -2147483648 ≤ a) (h2 : a < 2147483648) : (se_i a).toInt = a := by
  unfold se_i
  exact Int32.toInt_ofInt_of_le h h2
theorem se_l_int {a : Int} (h : -9223372036854775808 ≤ a) (h2 : a < 9223372036854775808) : (se_l a).toInt = a := by
  unfold se_l
  exact Int64.toInt_ofInt_of_le h h2
theorem se_i_self (x : Int32) : x = se_i x.toInt := by
  refine Int32.toInt_inj.mp ?_
  rw [se_i_int (Int32.le_toInt x) (Int32.toInt_lt x)]
theorem se_l_self (x : Int64) : x = se_l x.toInt := by
  refine Int64.toInt_inj.mp ?_
  rw [se_l_int (Int64.le_toInt x) (Int64.toInt_lt x)]
theorem se_i_le {a b : Int} (h : -2147483648 ≤ a) (h2 : a < 2147483648) (h3 : -2147483648 ≤ b) (h4 : b < 2147483648) : se_i a ≤ se_i b ↔ a ≤ b := by
  rw [Int32.le_iff_toInt_le, se_i_int h h2, se_i_int h3 h4]
theorem se_i_lt {a b : Int} (h : -2147483648 ≤ a) (h2 : a < 2147483648) (h3 : -2147483648 ≤ b) (h4 : b < 2147483648) : se_i a < se_i b ↔ a < b := by
  rw [Int32.lt_iff_toInt_lt, se_i_int h h2, se_i_int h3 h4]
theorem se_i_eq {a b : Int} (h : -2147483648 ≤ a) (h2 : a < 2147483648) (h3 : -2147483648 ≤ b) (h4 : b < 2147483648) : se_i a = se_i b ↔ a = b := by
  rw [← Int32.toInt_inj, se_i_int h h2, se_i_int h3 h4]
theorem se_l_le {a b : Int} (h : -9223372036854775808 ≤ a) (h2 : a < 9223372036854775808) (h3 : -9223372036854775808 ≤ b) (h4 : b < 9223372036854775808) : se_l a ≤ se_l b ↔ a ≤ b := by
  rw [Int64.le_iff_toInt_le, se_l_int h h2, se_l_int h3 h4]
theorem se_l_lt {a b : Int} (h : -9223372036854775808 ≤ a) (h2 : a < 9223372036854775808) (h3 : -9223372036854775808 ≤ b) (h4 : b < 9223372036854775808) : se_l a < se_l b ↔ a < b := by
  rw [Int64.lt_iff_toInt_lt, se_l_int h h2, se_l_int h3 h4]
theorem se_l_eq {a b : Int} (h : -9223372036854775808 ≤ a) (h2 : a < 9223372036854775808) (h3 : -9223372036854775808 ≤ b) (h4 : b < 9223372036854775808) : se_l a = se_l b ↔ a = b := by
  rw [← Int64.toInt_inj, se_l_int h h2, se_l_int h3 h4]
theorem se_il {a : Int} (h : -2147483648 ≤ a) (h2 : a < 2147483648) : (se_i a).toInt64 = se_l a := by
  refine Int64.toInt_inj.mp ?_
  rw [Int32.toInt_toInt64, se_i_int h h2, se_l_int (by omega) (by omega)]
theorem se_li (a : Int) : (se_l a).toInt32 = se_i a := by
  unfold se_l se_i
  exact Int64.toInt32_ofInt
theorem se_imax (a b : Int) (h : -2147483648 ≤ a) (h2 : a < 2147483648) (h3 : -2147483648 ≤ b) (h4 : b < 2147483648) : jimax (se_i a) (se_i b) = se_i (max a b) := by
  unfold jimax
  by_cases q : a < b
  · rw [if_pos ((se_i_lt h h2 h3 h4).mpr q), show max a b = b by omega]
  · rw [if_neg (fun z => q ((se_i_lt h h2 h3 h4).mp z)), show max a b = a by omega]
theorem se_imin (a b : Int) (h : -2147483648 ≤ a) (h2 : a < 2147483648) (h3 : -2147483648 ≤ b) (h4 : b < 2147483648) : jimin (se_i a) (se_i b) = se_i (min a b) := by
  unfold jimin
  by_cases q : b < a
  · rw [if_pos ((se_i_lt h3 h4 h h2).mpr q), show min a b = b by omega]
  · rw [if_neg (fun z => q ((se_i_lt h3 h4 h h2).mp z)), show min a b = a by omega]
theorem se_cle {a b : Int} (h : -9223372036854775808 ≤ a) (h2 : a < 9223372036854775808) (h3 : -9223372036854775808 ≤ b) (h4 : b < 9223372036854775808) : (lg_cmp (se_l a) (se_l b) ≤ (0 : Int32)) ↔ a ≤ b := by
  rw [lg_cmp_le, se_l_le h h2 h3 h4]
theorem se_clt {a b : Int} (h : -9223372036854775808 ≤ a) (h2 : a < 9223372036854775808) (h3 : -9223372036854775808 ≤ b) (h4 : b < 9223372036854775808) : (lg_cmp (se_l a) (se_l b) < (0 : Int32)) ↔ a < b := by
  rw [lg_cmp_lt, se_l_lt h h2 h3 h4]
theorem se_cge {a b : Int} (h : -9223372036854775808 ≤ a) (h2 : a < 9223372036854775808) (h3 : -9223372036854775808 ≤ b) (h4 : b < 9223372036854775808) : ((0 : Int32) ≤ lg_cmp (se_l a) (se_l b)) ↔ b ≤ a := by
  rw [lg_cmp_ge, se_l_le h3 h4 h h2]
theorem se_cgt {a b : Int} (h : -9223372036854775808 ≤ a) (h2 : a < 9223372036854775808) (h3 : -9223372036854775808 ≤ b) (h4 : b < 9223372036854775808) : ((0 : Int32) < lg_cmp (se_l a) (se_l b)) ↔ b < a := by
  rw [lg_cmp_gt, se_l_lt h3 h4 h h2]
theorem se_ceq {a b : Int} (h : -9223372036854775808 ≤ a) (h2 : a < 9223372036854775808) (h3 : -9223372036854775808 ≤ b) (h4 : b < 9223372036854775808) : (lg_cmp (se_l a) (se_l b) = (0 : Int32)) ↔ a = b := by
  rw [lg_cmp_eq, se_l_eq h h2 h3 h4]
/-- longs that aren't negative, by numbers -/
theorem se_nlt {a b : Nat} (ha : a < 2 ^ 63) (hb : b < 2 ^ 63) : (lg_cmp (lN a) (lN b) < (0 : Int32)) ↔ a < b := by
  rw [se_l_nat, se_l_nat, se_clt (by omega) (by omega) (by omega) (by omega)]; omega
theorem se_nle {a b : Nat} (ha : a < 2 ^ 63) (hb : b < 2 ^ 63) : (lg_cmp (lN a) (lN b) ≤ (0 : Int32)) ↔ a ≤ b := by
  rw [se_l_nat, se_l_nat, se_cle (by omega) (by omega) (by omega) (by omega)]; omega
theorem se_nge {a b : Nat} (ha : a < 2 ^ 63) (hb : b < 2 ^ 63) : ((0 : Int32) ≤ lg_cmp (lN a) (lN b)) ↔ b ≤ a := by
  rw [se_l_nat, se_l_nat, se_cge (by omega) (by omega) (by omega) (by omega)]; omega
theorem se_ngt {a b : Nat} (ha : a < 2 ^ 63) (hb : b < 2 ^ 63) : ((0 : Int32) < lg_cmp (lN a) (lN b)) ↔ b < a := by
  rw [se_l_nat, se_l_nat, se_cgt (by omega) (by omega) (by omega) (by omega)]; omega
theorem se_neq {a b : Nat} (ha : a < 2 ^ 64) (hb : b < 2 ^ 64) : (lg_cmp (lN a) (lN b) = (0 : Int32)) ↔ a = b := by
  rw [lg_cmp_eq]; exact se_inj ha hb
/-! the nearest size: rounding after so many halvings; the end of both loops -/
def se_half (m k : Nat) : Nat := if 2 ^ (k - 1) < m % 2 ^ k then m / 2 ^ k + 1 else if m % 2 ^ k = 2 ^ (k - 1) then (if m / 2 ^ k % 2 = 1 then m / 2 ^ k + 1 else m / 2 ^ k) else m / 2 ^ k
def se_fin (m : Nat) (e : Int) : Nat := if e ≤ 971 then (if e < -1074 then (if -1128 ≤ e then se_half m (-1074 - e).toNat else 0) else (e + 1075).toNat * 2 ^ 52 + (m - 2 ^ 52)) else se_E
theorem se_p2 (k : Nat) : 0 < 2 ^ k := Nat.pow_pos (by decide)
theorem se_p60 {k : Nat} (h : k ≤ 60) : 2 ^ k ≤ 2 ^ 60 := Nat.pow_le_pow_right (by decide) h
theorem se_1shl (k : Nat) (h : k ≤ 60) : jlshl ((1 : Int64)) (nI k) = lN (2 ^ k) := by
  rw [show (1 : Int64) = lN 1 from rfl, se_shl 1 k (by omega), Nat.one_mul]
theorem se_nI1 {k : Nat} (h : 1 ≤ k) : nI k - ((1 : Int32)) = nI (k - 1) := by
  rw [se_i_nat, se_i_nat, show (1 : Int32) = se_i 1 from rfl, se_i_sub]
  congr 1; omega
theorem se_div2 {a : Nat} (h : a < 2 ^ 63) : lN a / ((2 : Int64)) = lN (a / 2) := by
  refine Int64.toInt_inj.mp ?_
  rw [Int64.toInt_div, lN_ti (by omega), lN_ti (by omega), if_pos h, if_pos (by omega), show (2 : Int64).toInt = ((2 : Nat) : Int) from rfl, show ((a : Int).tdiv ((2 : Nat) : Int)) = ((a / 2 : Nat) : Int) from rfl]
  rw [Int.bmod_eq_of_le (by omega) (by omega)]
theorem se_odd {a : Nat} (h : a < 2 ^ 63) : lN a - lN a / ((2 : Int64)) * ((2 : Int64)) = lN (a % 2) := by
  rw [se_div2 h, show (2 : Int64) = lN 2 from rfl, lN_mul, lN_sub (by omega)]
  congr 1; omega
theorem se_halfIs {m k : Nat} (hm : m < 2 ^ 53) (hk : 1 ≤ k) (hk2 : k ≤ 60) : fn_X2_halvedOften (lN m) (nI k) = lN (se_half m k) := by
  have p1 := se_p60 hk2
  have p2 := se_p2 k
  have p3 : 2 ^ (k - 1) < 2 ^ k := Nat.pow_lt_pow_right (by decide) (by omega)
  have p5 : m % 2 ^ k < 2 ^ k := Nat.mod_lt _ p2
  have p6 : m / 2 ^ k ≤ m := Nat.div_le_self _ _
  unfold fn_X2_halvedOften se_half
  rw [se_shr k (by omega) (by omega), se_1shl k hk2, se_nI1 hk, se_1shl (k - 1) (by omega), show (1 : Int64) = lN 1 from rfl, lN_sub p2, se_and (k := k) (by omega) rfl (by omega), lN_add, se_and (U := m / 2 ^ k) (k := 1) (by omega) rfl (by omega)]
  simp only [se_ngt (show m % 2 ^ k < 2 ^ 63 by omega) (show 2 ^ (k - 1) < 2 ^ 63 by omega), se_neq (show m % 2 ^ k < 2 ^ 64 by omega) (show 2 ^ (k - 1) < 2 ^ 64 by omega), se_neq (show m / 2 ^ k % 2 ^ 1 < 2 ^ 64 by omega) (show 1 < 2 ^ 64 by omega)]
  rw [Nat.pow_one]
  repeat' split
  all_goals rfl
theorem se_halfBig {m k : Nat} (hm : m < 2 ^ 53) (hk : 54 ≤ k) : se_half m k = 0 := by
  have p1 : 2 ^ 53 ≤ 2 ^ (k - 1) := Nat.pow_le_pow_right (by decide) (by omega)
  have p2 : 2 ^ (k - 1) < 2 ^ k := Nat.pow_lt_pow_right (by decide) (by omega)
  unfold se_half
  rw [Nat.mod_eq_of_lt (by omega), Nat.div_eq_of_lt (by omega), if_neg (by omega), if_neg (by omega)]
theorem se_halfLe {m k : Nat} (hm : m < 2 ^ 53) (hk : 1 ≤ k) : se_half m k ≤ 2 ^ 52 := by
  have p6 : m / 2 ^ k ≤ m / 2 := Nat.div_le_div_left (by have := Nat.pow_le_pow_right (show 0 < 2 by decide) hk; omega) (by decide)
  unfold se_half
  repeat' split
  all_goals omega
theorem se_1shl' (k : Nat) (h1 : 1 ≤ k) (h : k ≤ 60) : jlshl ((1 : Int64)) (nI k - ((1 : Int32))) = lN (2 ^ (k - 1)) := by
  rw [se_nI1 h1, se_1shl _ (by omega)]
/-- the end of the reference's loop -/
theorem se_fin9 {m : Nat} {e : Int} (h1 : 2 ^ 52 ≤ m) (h2 : m < 2 ^ 53) (h3 : -100000000000 ≤ e) (h4 : e ≤ 100000000000) (n : Nat) : fn_X9_nearest_L14 (n + 1) (lN m) (se_l e) = lN (se_fin m e) := by
  unfold fn_X9_nearest_L14 se_fin
  rw [show (4503599627370496 : Int64) = lN (2 ^ 52) from rfl, show (971 : Int64) = se_l 971 from rfl, show (-1074 : Int64) = se_l (-1074) from rfl, show (-1128 : Int64) = se_l (-1128) from rfl, show (1075 : Int64) = se_l 1075 from rfl, se_l_sub, se_li, se_l_add]
  rw [if_pos ((se_nge (by omega) (by omega)).mpr h1)]
  by_cases c1 : e ≤ 971
  · rw [if_pos ((se_cle (by omega) (by omega) (by omega) (by omega)).mpr c1), if_pos c1]
    by_cases c2 : e < -1074
    · rw [if_pos ((se_clt (by omega) (by omega) (by omega) (by omega)).mpr c2), if_pos c2]
      by_cases c3 : -1128 ≤ e
      · rw [if_pos ((se_cge (by omega) (by omega) (by omega) (by omega)).mpr c3), if_pos c3]
        obtain ⟨k, hk⟩ : ∃ k : Nat, (-1074 - e) = (k : Int) := ⟨(-1074 - e).toNat, by omega⟩
        have hk1 : 1 ≤ k := by omega
        have hk2 : k ≤ 60 := by omega
        rw [hk, ← se_i_nat, Int.toNat_natCast]
        have p1 := se_p60 hk2
        have p2 := se_p2 k
        have p3 : 2 ^ (k - 1) < 2 ^ k := Nat.pow_lt_pow_right (by decide) (by omega)
        have p5 : m % 2 ^ k < 2 ^ k := Nat.mod_lt _ p2
        have p6 : m / 2 ^ k ≤ m := Nat.div_le_self _ _
        have p7 : m / 2 ^ k * 2 ^ k ≤ m := Nat.div_mul_le_self _ _
        rw [se_asr k (by omega) (by omega), se_1shl' k hk1 hk2, se_shl _ _ (by omega), lN_sub p7, show m - m / 2 ^ k * 2 ^ k = m % 2 ^ k by rw [Nat.mod_eq_sub_div_mul], se_odd (by omega), show (1 : Int64) = lN 1 from rfl, lN_add]
        unfold se_half
        simp only [se_ngt (show m % 2 ^ k < 2 ^ 63 by omega) (show 2 ^ (k - 1) < 2 ^ 63 by omega), se_neq (show m % 2 ^ k < 2 ^ 64 by omega) (show 2 ^ (k - 1) < 2 ^ 64 by omega), se_neq (show m / 2 ^ k % 2 < 2 ^ 64 by omega) (show 1 < 2 ^ 64 by omega)]
        repeat' split
        all_goals rfl
      · rw [if_neg (fun z => c3 ((se_cge (by omega) (by omega) (by omega) (by omega)).mp z)), if_neg c3]
        rfl
    · rw [if_neg (fun z => c2 ((se_clt (by omega) (by omega) (by omega) (by omega)).mp z)), if_neg c2]
      obtain ⟨k, hk⟩ : ∃ k : Nat, (e + 1075) = (k : Int) := ⟨(e + 1075).toNat, by omega⟩
      rw [hk, ← se_l_nat, Int.toNat_natCast, show (52 : Int32) = nI 52 from rfl, se_shl _ _ (by omega), lN_sub h1, lN_add]
  · rw [if_neg (fun z => c1 ((se_cle (by omega) (by omega) (by omega) (by omega)).mp z)), if_neg c1]
    rfl
theorem se_loop9 : ∀ (d n M : Nat) (e : Int), d ≤ 52 → 2 ^ 52 ≤ M * 2 ^ d → M * 2 ^ d < 2 ^ 53 → -10000000000 ≤ e - d → e ≤ 10000000000 → fn_X9_nearest_L14 (n + d + 1) (lN M) (se_l e) = lN (se_fin (M * 2 ^ d) (e - d))
  | 0, n, M, e, _, h1, h2, h3, h4 => by
    rw [Nat.pow_zero, Nat.mul_one] at h1 h2 ⊢
    rw [show e - ((0 : Nat) : Int) = e by omega]
    exact se_fin9 h1 h2 (by omega) (by omega) _
  | d + 1, n, M, e, h0, h1, h2, h3, h4 => by
    have e9 : M * 2 ^ (d + 1) = (M * 2) * 2 ^ d := by rw [Nat.pow_succ, Nat.mul_comm (2 ^ d), Nat.mul_assoc]
    rw [e9] at h1 h2 ⊢
    have hp := se_p2 d
    have hM : M * 2 < 2 ^ 53 := Nat.lt_of_le_of_lt (Nat.le_mul_of_pos_right _ hp) h2
    have r := se_loop9 d n (M * 2) (e - 1) (by omega) h1 h2 (by omega) (by omega)
    rw [show n + (d + 1) + 1 = (n + d + 1) + 1 by omega]
    unfold fn_X9_nearest_L14
    rw [show (4503599627370496 : Int64) = lN (2 ^ 52) from rfl, if_neg (fun z => by rw [se_nge (by omega) (by omega)] at z; omega), show (2 : Int64) = lN 2 from rfl, show (1 : Int64) = se_l 1 from rfl, lN_mul, se_l_sub, r]
    congr 2; omega
theorem se_norm {M : Nat} (h : 0 < M) (h2 : M < 2 ^ 53) : ∃ d, d ≤ 52 ∧ 2 ^ 52 ≤ M * 2 ^ d ∧ M * 2 ^ d < 2 ^ 53 := by
  have a := Nat.log2_self_le (n := M) (by omega)
  have b := Nat.lt_log2_self (n := M)
  have c : M.log2 ≤ 52 := by
    refine Nat.le_of_not_lt (fun z => ?_)
    have := Nat.pow_le_pow_right (show 0 < 2 by decide) z
    omega
  refine ⟨52 - M.log2, by omega, ?_, ?_⟩
  · rw [show (2 : Nat) ^ 52 = 2 ^ M.log2 * 2 ^ (52 - M.log2) by rw [← Nat.pow_add]; congr 1; omega]
    exact Nat.mul_le_mul_right _ a
  · rw [show (2 : Nat) ^ 53 = 2 ^ (M.log2 + 1) * 2 ^ (52 - M.log2) by rw [← Nat.pow_add]; congr 1; omega]
    exact Nat.mul_lt_mul_of_pos_right b (se_p2 _)
theorem se_norm1 {M a b : Nat} (h1 : 2 ^ 52 ≤ M * 2 ^ a) (h2 : M * 2 ^ a < 2 ^ 53) (h3 : 2 ^ 52 ≤ M * 2 ^ b) (h4 : M * 2 ^ b < 2 ^ 53) : a = b := by
  have k : ∀ x y : Nat, 2 ^ 52 ≤ M * 2 ^ x → M * 2 ^ y < 2 ^ 53 → y ≤ x := fun x y hx hy => by
    refine Nat.le_of_not_lt (fun z => ?_)
    obtain ⟨w, rfl⟩ : ∃ w, y = x + 1 + w := ⟨y - x - 1, by omega⟩
    rw [Nat.pow_add, Nat.pow_succ, ← Nat.mul_assoc, ← Nat.mul_assoc] at hy
    have := Nat.le_mul_of_pos_right (M * 2 ^ x * 2) (se_p2 w)
    omega
  exact Nat.le_antisymm (k b a h3 h2) (k a b h1 h4)
/-- the reference's nearest size -/
theorem se_near9 {M d : Nat} {e : Int} (hd : d ≤ 52) (h1 : 2 ^ 52 ≤ M * 2 ^ d) (h2 : M * 2 ^ d < 2 ^ 53) (h3 : -9000000000 ≤ e) (h4 : e ≤ 10000000000) : fn_X9_nearest (lN M) (se_l e) = lN (se_fin (M * 2 ^ d) (e - d)) := by
  have h0 : 0 < M := Nat.pos_of_ne_zero (fun z => by rw [z, Nat.zero_mul] at h1; omega)
  have hM : M < 2 ^ 53 := Nat.lt_of_le_of_lt (Nat.le_mul_of_pos_right _ (se_p2 d)) h2
  unfold fn_X9_nearest
  rw [if_neg (fun z => by rw [show (0 : Int64) = lN 0 from rfl, se_neq (by omega) (by omega)] at z; omega)]
  have := se_loop9 d (63 - d) M e hd h1 h2 (by omega) h4
  rwa [show 63 - d + d + 1 = 64 by omega] at this
/-! the board's loop: one stage -/
theorem se_stage {F s : Nat} {h : Int} (n : Nat) (hs : 1 ≤ s) (hs2 : s ≤ 32) (h1 : 0 < F) (h2 : F < 2 ^ 53) (h3 : 2 ^ 53 ≤ F * 2 ^ (2 * s)) : ∃ a, a ≤ s ∧ 2 ^ 53 ≤ (F * 2 ^ a) * 2 ^ s ∧ F * 2 ^ a < 2 ^ 53 ∧ fn_X2_nearestTo_L23 (n + 1) (lN F) (se_i h) (nI s) = fn_X2_nearestTo_L23 n (lN (F * 2 ^ a)) (se_i (h - a)) ((nI s) >>> (((1 : Int32)) &&& 31)) := by
  have hp := se_p2 (53 - s)
  have hd : F / 2 ^ (53 - s) ≤ F := Nat.div_le_self _ _
  have hps : (2 : Nat) ^ 53 = 2 ^ (53 - s) * 2 ^ s := by rw [← Nat.pow_add]; congr 1; omega
  have hz : (lg_cmp (jlushr (lN F) (((53 : Int32)) - (nI s))) ((0 : Int64)) = (0 : Int32)) ↔ F < 2 ^ (53 - s) := by
    rw [show ((53 : Int32)) - (nI s) = nI (53 - s) by rw [se_i_nat, se_i_nat, show (53 : Int32) = se_i 53 from rfl, se_i_sub]; congr 1; omega, se_shr _ (by omega) (by omega), se_z (by omega), Nat.div_eq_zero_iff]
    omega
  have hle : ¬ nI s ≤ (0 : Int32) := by
    rw [show (0 : Int32) = nI 0 from rfl, nI_leI (by omega) (by omega)]; omega
  by_cases c : F < 2 ^ (53 - s)
  · refine ⟨s, Nat.le_refl _, ?_, ?_, ?_⟩
    · rwa [Nat.mul_assoc, ← Nat.pow_add, show s + s = 2 * s by omega]
    · rw [hps]; exact Nat.mul_lt_mul_of_pos_right c (se_p2 s)
    · conv => lhs; unfold fn_X2_nearestTo_L23
      rw [if_neg hle, if_pos (hz.mpr c), se_shl _ _ (by omega), se_i_nat s, se_i_sub, ← se_i_nat s]
  · refine ⟨0, Nat.zero_le _, ?_, ?_, ?_⟩
    · rw [Nat.pow_zero, Nat.mul_one, hps]; exact Nat.mul_le_mul_right _ (Nat.le_of_not_lt c)
    · rw [Nat.pow_zero, Nat.mul_one]; exact h2
    · rw [Nat.pow_zero, Nat.mul_one, show h - ((0 : Nat) : Int) = h by omega]
      conv => lhs; unfold fn_X2_nearestTo_L23
      rw [if_neg hle, if_neg (fun z => c (hz.mp z))]
/-- the end of the board's loop -/
theorem se_end2 {m : Nat} {h : Int} (n : Nat) (h1 : 2 ^ 52 ≤ m) (h2 : m < 2 ^ 53) (h3 : -1000000000 ≤ h) (h4 : h ≤ 1000000000) : fn_X2_nearestTo_L23 (n + 1) (lN m) (se_i h) ((0 : Int32)) = lN (se_fin m (h - 1075)) := by
  unfold fn_X2_nearestTo_L23 se_fin
  rw [if_pos (by decide), show (1 : Int32) = se_i 1 from rfl, show (2047 : Int32) = se_i 2047 from rfl]
  by_cases c1 : 1 ≤ h
  · rw [if_pos ((se_i_le (by omega) (by omega) (by omega) (by omega)).mpr c1)]
    by_cases c2 : h < 2047
    · rw [if_pos ((se_i_lt (by omega) (by omega) (by omega) (by omega)).mpr c2), if_pos (by omega), if_neg (by omega), se_il (by omega) (by omega)]
      obtain ⟨k, rfl⟩ : ∃ k : Nat, h = (k : Int) := ⟨h.toNat, by omega⟩
      rw [← se_l_nat, show (4503599627370496 : Int64) = lN (2 ^ 52) from rfl, show (52 : Int32) = nI 52 from rfl, se_shl _ _ (by omega), lN_sub h1, lN_add]
      congr 3; omega
    · rw [if_neg (fun z => c2 ((se_i_lt (by omega) (by omega) (by omega) (by omega)).mp z)), if_neg (by omega)]
      rfl
  · rw [if_neg (fun z => c1 ((se_i_le (by omega) (by omega) (by omega) (by omega)).mp z)), if_pos (by omega), if_pos (by omega), se_i_sub, show (60 : Int32) = se_i 60 from rfl, se_imin _ _ (by omega) (by omega) (by omega) (by omega)]
    obtain ⟨k, hk⟩ : ∃ k : Nat, min 60 (1 - h) = (k : Int) := ⟨(min 60 (1 - h)).toNat, by omega⟩
    rw [hk, ← se_i_nat, se_halfIs h2 (by omega) (by omega)]
    by_cases c3 : -1128 ≤ h - 1075
    · rw [if_pos c3]
      congr 2; omega
    · rw [if_neg c3, se_halfBig h2 (by omega)]
theorem se_near2 {M d : Nat} {e : Int} (hd : d ≤ 52) (h1 : 2 ^ 52 ≤ M * 2 ^ d) (h2 : M * 2 ^ d < 2 ^ 53) (h3 : -100000000 ≤ e) (h4 : e ≤ 100000000) : fn_X2_nearestTo (lN M) (se_i e) = lN (se_fin (M * 2 ^ d) (e - d)) := by
  have h0 : 0 < M := Nat.pos_of_ne_zero (fun z => by rw [z, Nat.zero_mul] at h1; omega)
  have hM : M < 2 ^ 53 := Nat.lt_of_le_of_lt (Nat.le_mul_of_pos_right _ (se_p2 d)) h2
  unfold fn_X2_nearestTo
  rw [if_neg (fun z => by rw [show (0 : Int64) = lN 0 from rfl, se_neq (by omega) (by omega)] at z; omega), show (-1074 : Int32) = se_i (-1074) from rfl, show (1 : Int32) = se_i 1 from rfl, se_i_sub, se_i_add]
  obtain ⟨a1, l1, g1, k1, q1⟩ := se_stage (F := M) (s := 32) (h := e - -1074 + 1) 6 (by omega) (by omega) h0 hM (by have := Nat.mul_le_mul_right (2 ^ (2 * 32)) h0; omega)
  have p1 : 0 < M * 2 ^ a1 := Nat.mul_pos h0 (se_p2 _)
  obtain ⟨a2, l2, g2, k2, q2⟩ := se_stage (F := M * 2 ^ a1) (s := 16) (h := e - -1074 + 1 - a1) 5 (by omega) (by omega) p1 k1 g1
  have p2 : 0 < M * 2 ^ a1 * 2 ^ a2 := Nat.mul_pos p1 (se_p2 _)
  obtain ⟨a3, l3, g3, k3, q3⟩ := se_stage (F := M * 2 ^ a1 * 2 ^ a2) (s := 8) (h := e - -1074 + 1 - a1 - a2) 4 (by omega) (by omega) p2 k2 g2
  have p3 : 0 < M * 2 ^ a1 * 2 ^ a2 * 2 ^ a3 := Nat.mul_pos p2 (se_p2 _)
  obtain ⟨a4, l4, g4, k4, q4⟩ := se_stage (F := M * 2 ^ a1 * 2 ^ a2 * 2 ^ a3) (s := 4) (h := e - -1074 + 1 - a1 - a2 - a3) 3 (by omega) (by omega) p3 k3 g3
  have p4 : 0 < M * 2 ^ a1 * 2 ^ a2 * 2 ^ a3 * 2 ^ a4 := Nat.mul_pos p3 (se_p2 _)
  obtain ⟨a5, l5, g5, k5, q5⟩ := se_stage (F := M * 2 ^ a1 * 2 ^ a2 * 2 ^ a3 * 2 ^ a4) (s := 2) (h := e - -1074 + 1 - a1 - a2 - a3 - a4) 2 (by omega) (by omega) p4 k4 g4
  have p5 : 0 < M * 2 ^ a1 * 2 ^ a2 * 2 ^ a3 * 2 ^ a4 * 2 ^ a5 := Nat.mul_pos p4 (se_p2 _)
  obtain ⟨a6, l6, g6, k6, q6⟩ := se_stage (F := M * 2 ^ a1 * 2 ^ a2 * 2 ^ a3 * 2 ^ a4 * 2 ^ a5) (s := 1) (h := e - -1074 + 1 - a1 - a2 - a3 - a4 - a5) 1 (by omega) (by omega) p5 k5 g5
  rw [show nI 32 >>> (((1 : Int32)) &&& 31) = nI 16 from by decide] at q1
  rw [show nI 16 >>> (((1 : Int32)) &&& 31) = nI 8 from by decide] at q2
  rw [show nI 8 >>> (((1 : Int32)) &&& 31) = nI 4 from by decide] at q3
  rw [show nI 4 >>> (((1 : Int32)) &&& 31) = nI 2 from by decide] at q4
  rw [show nI 2 >>> (((1 : Int32)) &&& 31) = nI 1 from by decide] at q5
  rw [show nI 1 >>> (((1 : Int32)) &&& 31) = (0 : Int32) from by decide] at q6
  rw [show (32 : Int32) = nI 32 from rfl, q1, q2, q3, q4, q5, q6]
  have e9 : M * 2 ^ a1 * 2 ^ a2 * 2 ^ a3 * 2 ^ a4 * 2 ^ a5 * 2 ^ a6 = M * 2 ^ (a1 + a2 + a3 + a4 + a5 + a6) := by
    simp only [Nat.pow_add, Nat.mul_assoc]
  have k9 : 2 ^ 52 ≤ M * 2 ^ a1 * 2 ^ a2 * 2 ^ a3 * 2 ^ a4 * 2 ^ a5 * 2 ^ a6 := by omega
  rw [se_end2 0 k9 k6 (by omega) (by omega)]
  rw [e9] at k9 k6 ⊢
  have hn := se_norm1 k9 k6 h1 h2
  rw [hn]
  congr 2; omega
theorem se_finLe {m : Nat} {e : Int} (h1 : 2 ^ 52 ≤ m) (h2 : m < 2 ^ 53) : se_fin m e ≤ se_E := by
  have hE : se_E = 9218868437227405312 := rfl
  unfold se_fin
  split
  · split
    · split
      · exact Nat.le_trans (se_halfLe h2 (by omega)) (by omega)
      · omega
    · omega
  · exact Nat.le_refl _
/-- both nearest sizes are one, and no greater than ENDLESS -/
theorem se_near {M : Nat} {e : Int} (hM : M < 2 ^ 53) (h3 : -100000000 ≤ e) (h4 : e ≤ 100000000) : ∃ Z, Z ≤ se_E ∧ fn_X2_nearestTo (lN M) (se_i e) = lN Z ∧ fn_X9_nearest (lN M) (se_l e) = lN Z := by
  by_cases h0 : M = 0
  · subst h0
    refine ⟨0, Nat.zero_le _, ?_, ?_⟩
    · unfold fn_X2_nearestTo
      rw [if_pos (by decide)]
      rfl
    · unfold fn_X9_nearest
      rw [if_pos (by decide)]
      rfl
  · obtain ⟨d, hd, h1, h2⟩ := se_norm (by omega) hM
    exact ⟨_, se_finLe h1 h2, se_near2 hd h1 h2 h3 h4, se_near9 hd h1 h2 (by omega) (by omega)⟩
/-! a cell's long and the reference's number -/
theorem se_iJ : ((0 : Int32) = se_i 0) ∧ ((1 : Int32) = se_i 1) ∧ ((60 : Int32) = se_i 60) ∧ ((1075 : Int32) = se_i 1075) ∧ ((-1074 : Int32) = se_i (-1074)) ∧ ((53 : Int32) = se_i 53) ∧ ((-53 : Int32) = se_i (-53)) := ⟨rfl, rfl, rfl, rfl, rfl, rfl, rfl⟩
/-- how many digits lie behind the point, 60 at most -/
def se_k (Z : Nat) : Nat := min 60 (1075 - Z / 2 ^ 52)
def se_pw (Z : Nat) : Int := max ((Z / 2 ^ 52 : Nat) : Int) 1 - 1075
theorem se_powV {s Z : Nat} (hs : s < 2) (h : Z < 2 ^ 63) : fn_X0_powerIn (lN (s * 2 ^ 63 + Z)) = se_i (se_pw Z) := by
  obtain ⟨h1, h2, h3⟩ := se_parts hs h
  unfold fn_X0_powerIn se_pw
  rw [se_high (by omega), h3, se_i_nat, show (1 : Int32) = se_i 1 from rfl, show (-1074 : Int32) = se_i (-1074) from rfl, se_imax _ _ (by omega) (by omega) (by omega) (by omega), se_i_add, se_i_sub]
  congr 1; omega
theorem se_pow8' {s : Int32} {Z : Nat} (h : Z < 2 ^ 63) : fn_X8_power (s, lN Z) = se_i (se_pw Z) := by
  unfold fn_X8_power se_pw
  rw [se_high8 h]
  by_cases c : Z / 2 ^ 52 = 0
  · rw [if_pos (by rw [c]; rfl), c]
    rfl
  · rw [if_neg (nI_ne0 (by omega) (by omega)), se_i_nat, show (1075 : Int32) = se_i 1075 from rfl, se_i_sub]
    congr 1; omega
theorem se_kV {s Z : Nat} (hs : s < 2) (h : Z < 2 ^ 63) : fn_X0_behindIn (lN (s * 2 ^ 63 + Z)) = nI (se_k Z) := by
  obtain ⟨h1, h2, h3⟩ := se_parts hs h
  unfold fn_X0_behindIn se_k
  rw [se_high (by omega), h3, se_i_nat, se_i_nat, show (0 : Int32) = se_i 0 from rfl, show (60 : Int32) = se_i 60 from rfl, show (1075 : Int32) = se_i 1075 from rfl, se_i_sub, se_imin _ _ (by omega) (by omega) (by omega) (by omega), se_imax _ _ (by omega) (by omega) (by omega) (by omega)]
  congr 1; omega
theorem se_k60 (Z : Nat) : se_k Z ≤ 60 := Nat.min_le_left _ _
theorem se_restV {s Z : Nat} (hs : s < 2) (h : Z < 2 ^ 63) : fn_X0_restIn (lN (s * 2 ^ 63 + Z)) = lN (se_m Z % 2 ^ se_k Z) := by
  have hm := se_mlt h
  have hk := se_k60 Z
  have h2k := se_p60 hk
  unfold fn_X0_restIn
  rw [se_factor hs h, se_kV hs h, se_1shl _ hk, show (1 : Int64) = lN 1 from rfl, lN_sub (se_p2 _)]
  exact se_and (k := se_k Z) (by omega) rfl (by omega)
theorem se_aheadV {s Z : Nat} (hs : s < 2) (h : Z < 2 ^ 63) : fn_X0_aheadIn (lN (s * 2 ^ 63 + Z)) = lN (se_m Z / 2 ^ se_k Z) := by
  have hm := se_mlt h
  have hk := se_k60 Z
  unfold fn_X0_aheadIn
  rw [se_factor hs h, se_kV hs h, se_shr _ (by omega) (by omega)]
def se_bh (m k : Nat) : Nat := if m % 2 ^ k = 0 then 0 else if m % 2 ^ k < 2 ^ (k - 1) then 1 else if m % 2 ^ k = 2 ^ (k - 1) then 2 else 3
theorem se_bhBig {m k : Nat} (hm : m < 2 ^ 53) (hk : 54 ≤ k) : se_bh m k = (if m = 0 then 0 else 1) ∧ m / 2 ^ k = 0 ∧ m % 2 ^ k = m := by
  have p1 : 2 ^ 53 ≤ 2 ^ (k - 1) := Nat.pow_le_pow_right (by decide) (by omega)
  have p2 : 2 ^ (k - 1) < 2 ^ k := Nat.pow_lt_pow_right (by decide) (by omega)
  have e1 : m % 2 ^ k = m := Nat.mod_eq_of_lt (by omega)
  refine ⟨?_, Nat.div_eq_of_lt (by omega), e1⟩
  unfold se_bh
  rw [e1]
  by_cases c : m = 0
  · rw [if_pos c, if_pos c]
  · rw [if_neg c, if_neg c, if_pos (by omega)]
theorem se_bh0 {m k : Nat} : se_bh m k = 0 ↔ m % 2 ^ k = 0 := by
  unfold se_bh
  split
  · exact ⟨fun _ => by assumption, fun _ => rfl⟩
  · refine ⟨fun z => ?_, fun z => absurd z (by assumption)⟩
    repeat' split at z
    all_goals omega
theorem se_bh3 (m k : Nat) : se_bh m k ≤ 3 := by
  unfold se_bh
  repeat' split
  all_goals omega
/-- below 1 in the last place: the reference's whole number -/
theorem se_whole8 {s : Int32} {Z : Nat} (h : Z < 2 ^ 63) (hh : Z / 2 ^ 52 < 1075) : fn_X8_whole (s, lN Z) = lN (se_m Z / 2 ^ se_k Z) := by
  have hm := se_mlt h
  unfold fn_X8_whole
  rw [se_pow8' h, se_many h, show (-53 : Int32) = se_i (-53) from rfl, se_i_neg]
  by_cases c : -53 ≤ se_pw Z
  · rw [if_pos ((se_i_le (by omega) (by omega) (by unfold se_pw; omega) (by unfold se_pw; omega)).mpr c)]
    have e : - se_pw Z = ((se_k Z : Nat) : Int) := by unfold se_pw at c ⊢; unfold se_k; omega
    rw [e, ← se_i_nat, se_asr _ (by omega) (by have := se_k60 Z; omega)]
  · rw [if_neg (fun z => c ((se_i_le (by omega) (by omega) (by unfold se_pw; omega) (by unfold se_pw; omega)).mp z)), (se_bhBig hm (by unfold se_pw at c; unfold se_k; omega)).2.1]
    rfl
theorem se_behind8 {s : Int32} {Z : Nat} (h : Z < 2 ^ 63) : fn_X8_behind (s, lN Z) = nI (se_bh (se_m Z) (se_k Z)) := by
  have hm := se_mlt h
  have hp1 : -1074 ≤ se_pw Z := by unfold se_pw; omega
  have hp2 : se_pw Z ≤ 972 := by unfold se_pw; omega
  unfold fn_X8_behind
  rw [se_pow8' h, se_many h, se_i_neg, show (0 : Int32) = se_i 0 from rfl, show (53 : Int32) = se_i 53 from rfl]
  by_cases c : - se_pw Z ≤ 0
  · rw [if_pos ((se_i_le (by omega) (by omega) (by omega) (by omega)).mpr c), show se_k Z = 0 by unfold se_pw at c; unfold se_k; omega, se_bh0.mpr (by rw [Nat.pow_zero, Nat.mod_one])]
    rfl
  · rw [if_neg (fun z => c ((se_i_le (by omega) (by omega) (by omega) (by omega)).mp z))]
    have hh : Z / 2 ^ 52 < 1075 := by unfold se_pw at c; omega
    rw [se_whole8 h hh, show se_i 0 = (0 : Int32) from rfl]
    by_cases c1 : se_m Z = 0
    · rw [if_pos ((se_z (by omega)).mpr c1), se_bh0.mpr (by rw [c1, Nat.zero_mod])]
      rfl
    · rw [if_neg (fun z => c1 ((se_z (by omega)).mp z))]
      by_cases c2 : - se_pw Z ≤ 53
      · rw [if_pos ((se_i_le (by omega) (by omega) (by omega) (by omega)).mpr c2)]
        have e : - se_pw Z = ((se_k Z : Nat) : Int) := by unfold se_pw at c2 ⊢; unfold se_k; omega
        have hk1 : 1 ≤ se_k Z := by omega
        have hk := se_k60 Z
        have p1 := se_p60 hk
        have p2 := se_p2 (se_k Z)
        have p3 : 2 ^ (se_k Z - 1) < 2 ^ se_k Z := Nat.pow_lt_pow_right (by decide) (by omega)
        have p5 : se_m Z % 2 ^ se_k Z < 2 ^ se_k Z := Nat.mod_lt _ p2
        have p7 : se_m Z / 2 ^ se_k Z * 2 ^ se_k Z ≤ se_m Z := Nat.div_mul_le_self _ _
        rw [e, ← se_i_nat, se_shl _ _ (by omega), lN_sub p7, show se_m Z - se_m Z / 2 ^ se_k Z * 2 ^ se_k Z = se_m Z % 2 ^ se_k Z by rw [Nat.mod_eq_sub_div_mul], se_1shl' _ hk1 hk]
        unfold se_bh
        simp only [se_z (show se_m Z % 2 ^ se_k Z < 2 ^ 64 by omega), se_nge (show se_m Z % 2 ^ se_k Z < 2 ^ 63 by omega) (show 2 ^ (se_k Z - 1) < 2 ^ 63 by omega), se_neq (show se_m Z % 2 ^ se_k Z < 2 ^ 64 by omega) (show 2 ^ (se_k Z - 1) < 2 ^ 64 by omega)]
        by_cases d0 : se_m Z % 2 ^ se_k Z = 0
        · rw [if_pos d0, if_pos d0]; rfl
        · rw [if_neg d0, if_neg d0]
          by_cases d1 : se_m Z % 2 ^ se_k Z < 2 ^ (se_k Z - 1)
          · rw [if_neg (by omega), if_pos d1]; rfl
          · rw [if_pos (by omega), if_neg d1]
            split <;> rfl
      · rw [if_neg (fun z => c2 ((se_i_le (by omega) (by omega) (by omega) (by omega)).mp z)), (se_bhBig hm (by unfold se_pw at c2; unfold se_k; omega)).1, if_neg c1]
        rfl
theorem se_sizeV {s Z : Nat} (hs : s < 2) (h : Z < 2 ^ 63) : fn_X0_sizeIn (lN (s * 2 ^ 63 + Z)) = lN Z := by
  rw [se_size (by omega), (se_parts hs h).1]
theorem se_s2 {s : Nat} (hs : s < 2) : s = 0 ∨ s = 1 := by omega
theorem se_intV {s Z : Nat} (hs : s < 2) (h : Z < 2 ^ 63) : lN (s * 2 ^ 63 + Z) = se_l (if s = 0 then (Z : Int) else (Z : Int) - 2 ^ 63) := by
  refine Int64.toInt_inj.mp ?_
  rw [lN_ti (by omega), se_l_int (by split <;> omega) (by split <;> omega)]
  rcases se_s2 hs with rfl | rfl
  · rw [if_pos (by omega), if_pos rfl]; omega
  · rw [if_neg (by omega), if_neg (by decide)]; omega
theorem se_downV {s Z : Nat} (hs : s < 2) (h : Z < 2 ^ 63) : fn_X0_isDownOne (lN (s * 2 ^ 63 + Z)) = nI s := by
  unfold fn_X0_isDownOne
  rw [se_intV hs h, show (0 : Int64) = se_l 0 from rfl]
  rcases se_s2 hs with rfl | rfl
  · rw [if_pos ((se_cge (by rw [if_pos rfl]; omega) (by rw [if_pos rfl]; omega) (by omega) (by omega)).mpr (by rw [if_pos rfl]; omega))]; rfl
  · rw [if_neg (fun z => by rw [se_cge (by rw [if_neg (by decide)]; omega) (by rw [if_neg (by decide)]; omega) (by omega) (by omega), if_neg (by decide)] at z; omega)]; rfl
theorem se_bitV {s Z : Nat} (hs : s < 2) (h : Z < 2 ^ 63) : lN (s * 2 ^ 63 + Z) &&& ((-9223372036854775808 : Int64)) = lN (s * 2 ^ 63) := by
  refine se_eq ?_
  rw [Int64.toBitVec_and, BitVec.toNat_and, lN_nat (by omega), lN_nat (by omega), show (-9223372036854775808 : Int64).toBitVec.toNat = 2 ^ 63 from by decide]
  apply Nat.eq_of_testBit_eq
  intro i
  rw [Nat.testBit_and, Nat.testBit_two_pow]
  by_cases q : 63 = i
  · subst q
    rw [decide_eq_true rfl, Bool.and_true, Nat.testBit_eq_decide_div_mod_eq, Nat.testBit_eq_decide_div_mod_eq, show (s * 2 ^ 63 + Z) / 2 ^ 63 = s * 2 ^ 63 / 2 ^ 63 by omega]
  · rw [decide_eq_false q, Bool.and_false]
    rcases se_s2 hs with rfl | rfl
    · rw [Nat.zero_mul, Nat.zero_testBit]
    · rw [Nat.one_mul, Nat.testBit_two_pow, decide_eq_false q]
theorem se_joinV {s Z X : Nat} (hs : s < 2) (h : Z < 2 ^ 63) (hX : X < 2 ^ 63) : fn_X0_joined (lN X) (lN (s * 2 ^ 63 + Z)) = lN (s * 2 ^ 63 + X) := by
  unfold fn_X0_joined
  have e := se_sizeV (s := 0) (Z := X) (by omega) hX
  rw [Nat.zero_mul, Nat.zero_add] at e
  rw [e, se_bitV hs h, show lN X ||| lN (s * 2 ^ 63) = lN (s * 2 ^ 63) ||| lN X from by apply Int64.toBitVec_inj.mp; rw [Int64.toBitVec_or, Int64.toBitVec_or, BitVec.or_comm]]
  exact se_or (k := 63) (by omega) hX
theorem se_joinVV {s Z r X : Nat} (hs : s < 2) (h : Z < 2 ^ 63) (hr : r < 2) (hX : X < 2 ^ 63) : fn_X0_joined (lN (r * 2 ^ 63 + X)) (lN (s * 2 ^ 63 + Z)) = lN (s * 2 ^ 63 + X) := by
  unfold fn_X0_joined
  rw [se_sizeV hr hX, se_bitV hs h, show lN X ||| lN (s * 2 ^ 63) = lN (s * 2 ^ 63) ||| lN X from by apply Int64.toBitVec_inj.mp; rw [Int64.toBitVec_or, Int64.toBitVec_or, BitVec.or_comm]]
  exact se_or (k := 63) (by omega) hX
theorem se_turnV {s Z : Nat} (hs : s < 2) (h : Z < 2 ^ 63) : fn_X0_turned (lN (s * 2 ^ 63 + Z)) = lN ((1 - s) * 2 ^ 63 + Z) := by
  unfold fn_X0_turned
  rw [show (-9223372036854775808 : Int64) = lN (2 ^ 63) from by decide +kernel, lN_xor]
  rcases se_s2 hs with rfl | rfl
  · rw [Nat.zero_mul, Nat.zero_add, xor63 h]
  · rw [show 1 * 2 ^ 63 + Z = 2 ^ 63 + Z by omega, ← xor63 h, Nat.xor_assoc, Nat.xor_self, Nat.xor_zero]
    congr 1; omega
theorem se_rungV {s Z : Nat} (hs : s < 2) (h : Z < 2 ^ 63) : fn_X0_rungIn (lN (s * 2 ^ 63 + Z)) = fn_X8_rung (nI s, lN Z) := by
  unfold fn_X0_rungIn fn_X8_rung
  rw [se_downV hs h, se_sizeV hs h]
theorem se_rankV {s Z : Nat} (hs : s < 2) (h : Z < 2 ^ 63) : fn_X0_rankIn (lN (s * 2 ^ 63 + Z)) = fn_X8_place (nI s, lN Z) := by
  unfold fn_X0_rankIn fn_X8_place
  rw [se_downV hs h, se_sizeV hs h, se_l_nat, show (-1 : Int64) = se_l (-1) from rfl, show (1 : Int64) = se_l 1 from rfl, se_l_sub, se_l_neg, se_l_sub]
  show (if nI s = 0 then se_l Z else se_l (-1 - (Z : Int))) = (if nI s = 0 then se_l Z else se_l (-(Z : Int) - 1))
  congr 2; omega
theorem se_rung8 {s Z : Nat} (hs : s < 2) : fn_X8_rung (nI s, lN Z) = se_l (if s = 0 then (Z : Int) else - (Z : Int)) := by
  unfold fn_X8_rung
  rcases se_s2 hs with rfl | rfl
  · rw [if_pos (show (nI 0, lN Z).1 = 0 from rfl), if_pos rfl, ← se_l_nat]
  · rw [if_neg (show ¬ nI 1 = 0 from by decide), if_neg (by decide), ← se_l_neg, ← se_l_nat]
theorem se_place8 {s Z : Nat} (hs : s < 2) : fn_X8_place (nI s, lN Z) = se_l (if s = 0 then (Z : Int) else - (Z : Int) - 1) := by
  unfold fn_X8_place
  rcases se_s2 hs with rfl | rfl
  · rw [if_pos (show (nI 0, lN Z).1 = 0 from rfl), if_pos rfl, ← se_l_nat]
  · rw [if_neg (show ¬ nI 1 = 0 from by decide), if_neg (by decide), ← se_l_sub, ← se_l_neg, ← se_l_nat]
    rfl
/-! a cell's long tells the reference's number -/
def se_R (V : Int64) (v : Int32 × Int64) : Prop := ∃ s Z : Nat, s < 2 ∧ Z ≤ se_E ∧ V = lN (s * 2 ^ 63 + Z) ∧ v = (nI s, lN Z)
theorem se_E63 {Z : Nat} (h : Z ≤ se_E) : Z < 2 ^ 63 := Nat.lt_of_le_of_lt h (by decide)
theorem se_Eh {Z : Nat} (h : Z ≤ se_E) : Z / 2 ^ 52 ≤ 2047 := by
  have hE : se_E = 9218868437227405312 := rfl
  omega
theorem se_end8 {s : Int32} {Z : Nat} (h : Z ≤ se_E) : (fn_X8_isEndless (s, lN Z) = (0 : Int32)) ↔ Z ≠ se_E := by
  have hE : se_E = 9218868437227405312 := rfl
  unfold fn_X8_isEndless
  rw [show (9218868437227405312 : Int64) = lN se_E from rfl]
  have z := se_neq (a := Z) (b := se_E) (by omega) (by omega)
  show ((if lg_cmp (lN Z) (lN se_E) = 0 then (1 : Int32) else 0) = 0) ↔ _
  by_cases c : Z = se_E
  · rw [if_pos (z.mpr c)]
    exact ⟨fun q => absurd q (by decide), fun q => absurd c q⟩
  · rw [if_neg (fun q => c (z.mp q))]
    exact ⟨fun _ => c, fun _ => rfl⟩
theorem se_endV {s Z : Nat} (hs : s < 2) (h : Z ≤ se_E) : (fn_X0_isEndlessOne (lN (s * 2 ^ 63 + Z)) = (0 : Int32)) ↔ Z ≠ se_E := by
  unfold fn_X0_isEndlessOne
  rw [se_sizeV hs (se_E63 h)]
  exact se_end8 (s := 0) h
theorem se_R.size {V : Int64} {v : Int32 × Int64} (h : se_R V v) : se_R (fn_X0_sizeIn V) (0, v.2) := by
  obtain ⟨s, Z, hs, hZ, rfl, rfl⟩ := h
  exact ⟨0, Z, by omega, hZ, by rw [se_sizeV hs (se_E63 hZ), Nat.zero_mul, Nat.zero_add], rfl⟩
theorem se_R.turn {V : Int64} {v : Int32 × Int64} (h : se_R V v) : se_R (fn_X0_turned V) (fn_X8_turned v) := by
  obtain ⟨s, Z, hs, hZ, rfl, rfl⟩ := h
  refine ⟨1 - s, Z, by omega, hZ, se_turnV hs (se_E63 hZ), ?_⟩
  unfold fn_X8_turned
  rcases se_s2 hs with rfl | rfl
  · show ((1 : Int32) - nI 0, lN Z) = _
    rw [show (1 : Int32) - nI 0 = nI (1 - 0) from by decide]
  · show ((1 : Int32) - nI 1, lN Z) = _
    rw [show (1 : Int32) - nI 1 = nI (1 - 1) from by decide]
theorem se_R.up {V : Int64} {v : Int32 × Int64} (h : se_R V v) : se_R (fn_X4_upFrom V) (fn_X8_up v) := by
  obtain ⟨s, Z, hs, hZ, rfl, rfl⟩ := h
  have h9 := se_E63 hZ
  have hE : se_E = 9218868437227405312 := rfl
  unfold fn_X4_upFrom fn_X8_up
  rw [se_sizeV hs h9, se_downV hs h9, show (9218868437227405312 : Int64) = lN se_E from rfl]
  have z0 := se_neq (a := s * 2 ^ 63 + Z) (b := se_E) (by omega) (by omega)
  have z1 := se_z (a := Z) (by omega)
  rcases se_s2 hs with rfl | rfl
  · rw [if_pos (show (nI 0, lN Z).1 = 0 from rfl)]
    by_cases c : Z = se_E
    · rw [if_pos (z0.mpr (by omega)), if_neg (fun q => (se_end8 hZ).mp q c)]
      exact ⟨0, Z, by omega, hZ, rfl, rfl⟩
    · rw [if_neg (fun q => c (by have := z0.mp q; omega)), if_pos ((se_end8 hZ).mpr c)]
      refine ⟨0, Z + 1, by omega, by omega, ?_, ?_⟩
      · by_cases c0 : Z = 0
        · rw [if_pos (z1.mpr c0), c0]; rfl
        · rw [if_neg (fun q => c0 (z1.mp q)), lN_1, Nat.add_assoc]
      · show (_, lN Z + 1) = _
        rw [lN_1]; rfl
  · rw [if_neg (show ¬ nI 1 = 0 from by decide), if_neg (fun q => by have := z0.mp q; omega), if_neg (show ¬ nI 1 = 0 from by decide)]
    show se_R _ (if lg_cmp (lN Z) 0 = 0 then _ else (1, lN Z - 1))
    by_cases c0 : Z = 0
    · rw [if_pos (z1.mpr c0), if_pos (z1.mpr c0)]
      exact ⟨0, 1, by omega, by omega, by rw [Nat.zero_mul, Nat.zero_add]; rfl, rfl⟩
    · rw [if_neg (fun q => c0 (z1.mp q)), if_neg (fun q => c0 (z1.mp q)), show (1 : Int64) = lN 1 from rfl, lN_sub (by omega), lN_sub (by omega)]
      exact ⟨1, Z - 1, by omega, by omega, by congr 1; omega, rfl⟩
theorem se_downUp {V : Int64} {v : Int32 × Int64} (h : se_R V v) : fn_X4_downFrom V = fn_X0_turned (fn_X4_upFrom (fn_X0_turned V)) := by
  obtain ⟨s, Z, hs, hZ, rfl, -⟩ := h
  have h9 := se_E63 hZ
  have hE : se_E = 9218868437227405312 := rfl
  rw [se_turnV hs h9]
  have hs1 : 1 - s < 2 := by omega
  unfold fn_X4_downFrom fn_X4_upFrom
  rw [se_sizeV hs h9, se_downV hs h9, se_sizeV hs1 h9, se_downV hs1 h9, show (9218868437227405312 : Int64) = lN se_E from rfl, show (-4503599627370496 : Int64) = lN (2 ^ 63 + se_E) from by decide +kernel]
  have z0 := se_neq (a := s * 2 ^ 63 + Z) (b := 2 ^ 63 + se_E) (by omega) (by omega)
  have z2 := se_neq (a := (1 - s) * 2 ^ 63 + Z) (b := se_E) (by omega) (by omega)
  have z1 := se_z (a := Z) (by omega)
  have t1 : ∀ a b : Nat, a < 2 → b < 2 ^ 63 → fn_X0_turned (lN (a * 2 ^ 63 + b)) = lN ((1 - a) * 2 ^ 63 + b) := fun a b ha hb => se_turnV ha hb
  rcases se_s2 hs with rfl | rfl
  · rw [if_neg (mt z0.mp (by omega)), if_neg (mt z2.mp (by omega)), if_pos (show nI 0 = 0 from rfl), if_neg (show ¬ nI (1 - 0) = 0 from by decide)]
    by_cases c0 : Z = 0
    · rw [if_pos (z1.mpr c0), if_pos (z1.mpr c0)]
      decide +kernel
    · rw [if_neg (mt z1.mp c0), if_neg (mt z1.mp c0), show (1 : Int64) = lN 1 from rfl, lN_sub (by omega), lN_sub (by omega)]
      rw [show (1 - 0) * 2 ^ 63 + Z - 1 = 1 * 2 ^ 63 + (Z - 1) by omega, t1 1 (Z - 1) (by omega) (by omega)]
      congr 1; omega
  · by_cases c : Z = se_E
    · rw [if_pos (z0.mpr (by omega)), if_pos (z2.mpr (by omega)), t1 (1 - 1) Z (by omega) h9]
    · rw [if_neg (mt z0.mp (by omega)), if_neg (mt z2.mp (by omega)), if_neg (show ¬ nI 1 = 0 from by decide), if_pos (show nI (1 - 1) = 0 from rfl)]
      by_cases c0 : Z = 0
      · rw [if_pos (z1.mpr c0), if_pos (z1.mpr c0)]
        decide +kernel
      · rw [if_neg (mt z1.mp c0), if_neg (mt z1.mp c0), lN_1, lN_1, show (1 - 1) * 2 ^ 63 + Z + 1 = 0 * 2 ^ 63 + (Z + 1) by omega, t1 0 (Z + 1) (by omega) (by omega)]
        congr 1
theorem se_R.next0 {V : Int64} {v : Int32 × Int64} (h : se_R V v) : se_R (fn_X4_upFrom V) (fn_X8_next 0 v) := by
  unfold fn_X8_next
  rw [if_pos rfl]
  exact h.up
theorem se_R.next1 {V : Int64} {v : Int32 × Int64} (h : se_R V v) : se_R (fn_X4_downFrom V) (fn_X8_next 1 v) := by
  unfold fn_X8_next
  rw [if_neg (by decide), se_downUp h]
  exact h.turn.up.turn
theorem se_nZ {V : Int64} {s Z : Nat} (hs : s < 2) (hZ : Z < 2 ^ 63) (hV : V = lN (s * 2 ^ 63 + Z)) {X : Nat} (hX : X ≤ se_E) : se_R (fn_X0_joined (lN X) V) (nI s, lN X) := by
  subst hV
  exact ⟨s, X, hs, hX, se_joinV hs hZ (se_E63 hX), rfl⟩
theorem se_R.sign {V : Int64} {v : Int32 × Int64} (h : se_R V v) : se_R (fn_X4_signFrom V) (fn_X8_sign v) := by
  obtain ⟨s, Z, hs, hZ, rfl, rfl⟩ := h
  have h9 := se_E63 hZ
  have z1 := se_z (a := Z) (by omega)
  unfold fn_X4_signFrom fn_X8_sign
  rw [se_sizeV hs h9]
  show se_R _ (if lg_cmp (lN Z) 0 = 0 then _ else (nI s, _))
  by_cases c0 : Z = 0
  · rw [if_pos (z1.mpr c0), if_pos (z1.mpr c0)]
    exact ⟨s, Z, hs, hZ, rfl, rfl⟩
  · rw [if_neg (fun q => c0 (z1.mp q)), if_neg (fun q => c0 (z1.mp q)), show fn_X9_nearest 1 0 = lN 4607182418800017408 from by decide +kernel, show (4607182418800017408 : Int64) = lN 4607182418800017408 from rfl]
    exact se_nZ hs h9 rfl (by decide)
theorem se_R.side {V W : Int64} {v w : Int32 × Int64} (h : se_R V v) (h2 : se_R W w) : se_R (fn_X0_joined V W) (w.1, v.2) := by
  obtain ⟨s, Z, hs, hZ, rfl, rfl⟩ := h
  obtain ⟨r, X, hr, hX, rfl, rfl⟩ := h2
  exact ⟨r, Z, hr, hZ, se_joinVV hr (se_E63 hX) hs (se_E63 hZ), rfl⟩
theorem se_R.step {V : Int64} {v : Int32 × Int64} (h : se_R V v) : se_R (fn_X4_stepFrom V) (fn_X8_step v) := by
  obtain ⟨s, Z, hs, hZ, rfl, rfl⟩ := h
  have h9 := se_E63 hZ
  unfold fn_X4_stepFrom fn_X8_step
  by_cases c : Z = se_E
  · rw [if_neg (fun q => (se_endV hs hZ).mp q c), if_neg (fun q => (se_end8 hZ).mp q c)]
    exact ⟨0, se_E, by omega, Nat.le_refl _, rfl, rfl⟩
  · rw [if_pos ((se_endV hs hZ).mpr c), if_pos ((se_end8 hZ).mpr c), se_powV hs h9, se_high8 h9]
    have e : jimax ((1 : Int32)) (nI (Z / 2 ^ 52)) - ((1075 : Int32)) = se_i (se_pw Z) := by
      rw [se_i_nat, show (1 : Int32) = se_i 1 from rfl, show (1075 : Int32) = se_i 1075 from rfl, se_imax _ _ (by omega) (by omega) (by omega) (by omega), se_i_sub]
      unfold se_pw
      congr 1; omega
    rw [e, se_il (by unfold se_pw; omega) (by unfold se_pw; omega), show (1 : Int64) = lN 1 from rfl]
    obtain ⟨X, hX, e1, e2⟩ := se_near (M := 1) (e := se_pw Z) (by omega) (by unfold se_pw; omega) (by unfold se_pw; omega)
    rw [e1, e2]
    exact ⟨0, X, by omega, hX, by rw [Nat.zero_mul, Nat.zero_add], rfl⟩
theorem se_finFar {m : Nat} {e : Int} : (971 < e → se_fin m e = se_E) ∧ (e < -1128 → se_fin m e = 0) := by
  unfold se_fin
  refine ⟨fun h => ?_, fun h => ?_⟩
  · rw [if_neg (by omega)]
  · rw [if_pos (by omega), if_pos (by omega), if_neg (by omega)]
theorem se_R.times {V : Int64} {v : Int32 × Int64} (h : se_R V v) (k : Int32) : se_R (fn_X2_timesPower V k) (fn_X8_times k.toInt64 v) := by
  obtain ⟨s, Z, hs, hZ, rfl, rfl⟩ := h
  have h9 := se_E63 hZ
  have z1 := se_z (a := Z) (by omega)
  have hm := se_mlt h9
  unfold fn_X2_timesPower fn_X8_times
  rw [se_sizeV hs h9]
  show se_R _ (if lg_cmp (lN Z) 0 = 0 then _ else _)
  by_cases c0 : Z = 0
  · rw [if_pos (z1.mpr c0), if_pos (z1.mpr c0)]
    exact ⟨s, Z, hs, hZ, rfl, rfl⟩
  · rw [if_neg (fun q => c0 (z1.mp q)), if_neg (fun q => c0 (z1.mp q))]
    by_cases c : Z = se_E
    · rw [if_neg (fun q => (se_endV hs hZ).mp q c), if_neg (fun q => (se_end8 hZ).mp q c)]
      exact ⟨s, Z, hs, hZ, rfl, rfl⟩
    · rw [if_pos ((se_endV hs hZ).mpr c), if_pos ((se_end8 hZ).mpr c), se_factor hs h9, se_powV hs h9, se_many h9, se_pow8' h9]
      have hk1 := Int32.le_toInt k
      have hk2 := Int32.toInt_lt k
      have hp1 : -1074 ≤ se_pw Z := by unfold se_pw; omega
      have hp2 : se_pw Z ≤ 972 := by unfold se_pw; omega
      rw [se_i_self k]
      generalize k.toInt = q at hk1 hk2 ⊢
      rw [se_il (by omega) (by omega), se_il (by omega) (by omega), se_l_add, show (-2200 : Int32) = se_i (-2200) from rfl, show (2200 : Int32) = se_i 2200 from rfl, se_imin _ _ (by omega) (by omega) (by omega) (by omega), se_imax _ _ (by omega) (by omega) (by omega) (by omega), se_i_add]
      have hm0 : 0 < se_m Z := by
        unfold se_m
        split <;> omega
      obtain ⟨d, hd, h1, h2⟩ := se_norm hm0 hm
      rw [se_near2 hd h1 h2 (by omega) (by omega), se_near9 hd h1 h2 (by omega) (by omega)]
      have e : se_fin (se_m Z * 2 ^ d) (se_pw Z + max (-2200) (min 2200 q) - d) = se_fin (se_m Z * 2 ^ d) (se_pw Z + q - d) := by
        by_cases a1 : 2200 < q
        · rw [se_finFar.1 (by omega), se_finFar.1 (by omega)]
        · by_cases a2 : q < -2200
          · rw [se_finFar.2 (by omega), se_finFar.2 (by omega)]
          · rw [show max (-2200) (min 2200 q) = q by omega]
      rw [e]
      exact se_nZ hs h9 rfl (se_finLe h1 h2)
theorem se_expV {V : Int64} {v : Int32 × Int64} (h : se_R V v) : fn_X0_exponentIn V = fn_X8_exponent v := by
  obtain ⟨s, Z, hs, hZ, rfl, rfl⟩ := h
  have h9 := se_E63 hZ
  unfold fn_X0_exponentIn fn_X8_exponent
  rw [se_high (by omega), (se_parts hs h9).2.2, se_high8 h9]
/-- what is whole is its whole number's nearest size -/
theorem se_back {Z : Nat} (hZ : Z ≤ se_E) (hh : Z / 2 ^ 52 < 1075) (h : se_m Z % 2 ^ se_k Z = 0) : fn_X9_nearest (lN (se_m Z / 2 ^ se_k Z)) (se_l 0) = lN Z := by
  have h9 := se_E63 hZ
  have hm := se_mlt h9
  by_cases c : se_m Z = 0
  · have hZ0 : Z = 0 := by
      unfold se_m at c
      split at c <;> omega
    rw [c, Nat.zero_div, hZ0]
    unfold fn_X9_nearest
    rw [if_pos ((se_z (by decide)).mpr rfl)]
    rfl
  · have hk : se_k Z < 54 := by
      refine Nat.lt_of_not_le (fun z => ?_)
      rw [(se_bhBig hm z).2.2] at h
      exact c h
    have hk53 : se_k Z ≠ 53 := fun z => by rw [z, Nat.mod_eq_of_lt hm] at h; exact c h
    have hkk : se_k Z = 1075 - Z / 2 ^ 52 := by unfold se_k at hk ⊢; omega
    have hm2 := se_hm (Z := Z) (by omega)
    have hmm : se_m Z = Z % 2 ^ 52 + 2 ^ 52 := by unfold se_m; rw [if_neg (by omega)]
    have e : se_m Z / 2 ^ se_k Z * 2 ^ se_k Z = se_m Z := Nat.div_mul_cancel (Nat.dvd_of_mod_eq_zero h)
    rw [se_near9 (d := se_k Z) (by omega) (by omega) (by omega) (by omega) (by omega), e]
    unfold se_fin
    rw [if_pos (by omega), if_neg (by omega), show (0 - (se_k Z : Int) + 1075).toNat * 2 ^ 52 + (se_m Z - 2 ^ 52) = Z by omega]
theorem se_wholeLt {Z : Nat} (hZ : Z ≤ se_E) (h : ¬ se_m Z % 2 ^ se_k Z = 0) : se_m Z / 2 ^ se_k Z < 2 ^ 52 := by
  have hm := se_mlt (se_E63 hZ)
  have hk : 1 ≤ se_k Z := Nat.pos_of_ne_zero (fun z => h (by rw [z, Nat.pow_zero, Nat.mod_one]))
  have p6 : se_m Z / 2 ^ se_k Z ≤ se_m Z / 2 := Nat.div_le_div_left (by have := Nat.pow_le_pow_right (show 0 < 2 by decide) hk; omega) (by decide)
  omega
theorem se_kh {Z : Nat} (h : ¬ se_m Z % 2 ^ se_k Z = 0) : Z / 2 ^ 52 < 1075 := by
  refine Nat.lt_of_not_le (fun z => h ?_)
  rw [show se_k Z = 0 by unfold se_k; omega, Nat.pow_zero, Nat.mod_one]
theorem se_k0 {Z : Nat} (hZ : Z ≤ se_E) (h : ¬ se_m Z % 2 ^ se_k Z = 0) : Z ≠ se_E := fun z => h (by rw [z]; decide)
/-- both whole numbers near a cell's, with what is added to the size's -/
theorem se_like {s Z : Nat} (hs : s < 2) (hZ : Z ≤ se_E) (h : ¬ se_m Z % 2 ^ se_k Z = 0) (c : Nat) (hc : c ≤ 1) : se_R (fn_X4_wholeLike (lN (s * 2 ^ 63 + Z)) (lN (se_m Z / 2 ^ se_k Z + c))) (nI s, fn_X9_nearest (lN (se_m Z / 2 ^ se_k Z + c)) ((0 : Int64))) := by
  have hw := se_wholeLt hZ h
  unfold fn_X4_wholeLike
  rw [show (0 : Int32) = se_i 0 from rfl, show (0 : Int64) = se_l 0 from rfl]
  obtain ⟨X, hX, e1, e2⟩ := se_near (M := se_m Z / 2 ^ se_k Z + c) (e := 0) (by omega) (by omega) (by omega)
  rw [e1, e2]
  exact se_nZ hs (se_E63 hZ) rfl hX
theorem se_pwlt {Z : Nat} (hZ : Z ≤ se_E) : (se_i (se_pw Z) < (0 : Int32)) ↔ Z / 2 ^ 52 < 1075 := by
  have := se_Eh hZ
  rw [show (0 : Int32) = se_i 0 from rfl, se_i_lt (by unfold se_pw; omega) (by unfold se_pw; omega) (by omega) (by omega)]
  unfold se_pw
  omega
theorem se_takeW {s : Int32} {Z : Nat} (hZ : Z ≤ se_E) (a : Int32) (h : se_m Z % 2 ^ se_k Z = 0) : fn_X8_taken a (s, lN Z) = (s, lN Z) := by
  have h9 := se_E63 hZ
  unfold fn_X8_taken
  by_cases c : Z = se_E
  · rw [if_neg (fun q => (se_end8 hZ).mp q c)]
  · rw [if_pos ((se_end8 hZ).mpr c), se_pow8' h9]
    by_cases c1 : Z / 2 ^ 52 < 1075
    · have hb : se_bh (se_m Z) (se_k Z) = 0 := se_bh0.mpr h
      rw [if_pos ((se_pwlt hZ).mpr c1), se_behind8 h9, se_whole8 h9 c1, hb, show lN (se_m Z / 2 ^ se_k Z) + ((0 : Int32)).toInt64 = lN (se_m Z / 2 ^ se_k Z) from lN_add _ 0, show (0 : Int64) = se_l 0 from rfl, se_back hZ c1 h, if_neg (show ¬ nI 0 = 3 from by decide), if_neg (show ¬ nI 0 = 2 from by decide), if_pos (show nI 0 ≤ 0 from by decide)]
      split <;> rfl
    · rw [if_neg (fun q => c1 ((se_pwlt hZ).mp q))]
theorem se_R.floor {V : Int64} {v : Int32 × Int64} (h : se_R V v) : se_R (fn_X4_floorFrom V) (fn_X8_taken 0 v) := by
  obtain ⟨s, Z, hs, hZ, rfl, rfl⟩ := h
  have h9 := se_E63 hZ
  have hm := se_mlt h9
  have zr := se_z (a := se_m Z % 2 ^ se_k Z) (Nat.lt_of_le_of_lt (Nat.mod_le _ _) (by omega))
  unfold fn_X4_floorFrom
  rw [se_restV hs h9]
  by_cases c : se_m Z % 2 ^ se_k Z = 0
  · rw [if_pos (zr.mpr c), se_takeW hZ _ c]
    exact ⟨s, Z, hs, hZ, rfl, rfl⟩
  · have hb : ¬ se_bh (se_m Z) (se_k Z) = 0 := fun z => c (se_bh0.mp z)
    have hb3 := se_bh3 (se_m Z) (se_k Z)
    have hl := se_like hs hZ c
    have hn0 : ¬ nI (se_bh (se_m Z) (se_k Z)) ≤ 0 := fun q => by
      rw [show (0 : Int32) = nI 0 from rfl, nI_leI (by omega) (by omega)] at q
      omega
    rw [if_neg (fun q => c (zr.mp q)), se_aheadV hs h9, se_downV hs h9]
    unfold fn_X8_taken
    rw [if_pos ((se_end8 hZ).mpr (se_k0 hZ c)), se_pow8' h9, if_pos ((se_pwlt hZ).mpr (se_kh c)), if_neg (show ¬ (0 : Int32) = 2 from by decide), se_behind8 h9, if_neg hn0, if_neg (show ¬ (0 : Int32) = 1 from by decide), se_whole8 h9 (se_kh c), show lN (se_m Z / 2 ^ se_k Z) + ((0 : Int32)).toInt64 = lN (se_m Z / 2 ^ se_k Z + 0) from lN_add _ 0, show lN (se_m Z / 2 ^ se_k Z) + ((1 : Int32)).toInt64 = lN (se_m Z / 2 ^ se_k Z + 1) from lN_add _ 1]
    by_cases d : nI s = 0
    · rw [if_pos d, if_pos d]
      exact hl 0 (by omega)
    · rw [if_neg d, if_neg d]
      exact hl 1 (by omega)
theorem se_R.ceil {V : Int64} {v : Int32 × Int64} (h : se_R V v) : se_R (fn_X4_ceilFrom V) (fn_X8_taken 1 v) := by
  obtain ⟨s, Z, hs, hZ, rfl, rfl⟩ := h
  have h9 := se_E63 hZ
  have hm := se_mlt h9
  have zr := se_z (a := se_m Z % 2 ^ se_k Z) (Nat.lt_of_le_of_lt (Nat.mod_le _ _) (by omega))
  unfold fn_X4_ceilFrom
  rw [se_restV hs h9]
  by_cases c : se_m Z % 2 ^ se_k Z = 0
  · rw [if_pos (zr.mpr c), se_takeW hZ _ c]
    exact ⟨s, Z, hs, hZ, rfl, rfl⟩
  · have hb : ¬ se_bh (se_m Z) (se_k Z) = 0 := fun z => c (se_bh0.mp z)
    have hb3 := se_bh3 (se_m Z) (se_k Z)
    have hl := se_like hs hZ c
    have hn0 : ¬ nI (se_bh (se_m Z) (se_k Z)) ≤ 0 := fun q => by
      rw [show (0 : Int32) = nI 0 from rfl, nI_leI (by omega) (by omega)] at q
      omega
    rw [if_neg (fun q => c (zr.mp q)), se_aheadV hs h9, se_downV hs h9]
    unfold fn_X8_taken
    rw [if_pos ((se_end8 hZ).mpr (se_k0 hZ c)), se_pow8' h9, if_pos ((se_pwlt hZ).mpr (se_kh c)), if_neg (show ¬ (1 : Int32) = 2 from by decide), se_behind8 h9, if_neg hn0, if_pos (show (1 : Int32) = 1 from rfl), se_whole8 h9 (se_kh c), show lN (se_m Z / 2 ^ se_k Z) + ((0 : Int32)).toInt64 = lN (se_m Z / 2 ^ se_k Z + 0) from lN_add _ 0, show lN (se_m Z / 2 ^ se_k Z) + ((1 : Int32)).toInt64 = lN (se_m Z / 2 ^ se_k Z + 1) from lN_add _ 1]
    by_cases d : nI s = 0
    · rw [if_pos d, if_pos d]
      exact hl 1 (by omega)
    · rw [if_neg d, if_neg d]
      exact hl 0 (by omega)
theorem se_halfBh (m k : Nat) (h : ¬ m % 2 ^ k = 0) : se_half m k = m / 2 ^ k + (if se_bh m k = 3 then 1 else if se_bh m k = 2 then (if m / 2 ^ k % 2 = 1 then 1 else 0) else 0) := by
  unfold se_half se_bh
  rw [if_neg h]
  by_cases a : m % 2 ^ k < 2 ^ (k - 1)
  · simp only [if_pos a, if_neg (show ¬ 2 ^ (k - 1) < m % 2 ^ k by omega), if_neg (show ¬ m % 2 ^ k = 2 ^ (k - 1) by omega), if_neg (show ¬ 1 = 3 by decide), if_neg (show ¬ 1 = 2 by decide)]
    rfl
  · by_cases b : m % 2 ^ k = 2 ^ (k - 1)
    · simp only [if_neg a, if_pos b, if_neg (show ¬ 2 ^ (k - 1) < m % 2 ^ k by omega), if_neg (show ¬ 2 = 3 by decide), if_true]
      split <;> rfl
    · simp only [if_neg a, if_neg b, if_pos (show 2 ^ (k - 1) < m % 2 ^ k by omega), if_true]
theorem se_R.rint {V : Int64} {v : Int32 × Int64} (h : se_R V v) : se_R (fn_X4_rintFrom V) (fn_X8_taken 2 v) := by
  obtain ⟨s, Z, hs, hZ, rfl, rfl⟩ := h
  have h9 := se_E63 hZ
  have hm := se_mlt h9
  have zr := se_z (a := se_m Z % 2 ^ se_k Z) (Nat.lt_of_le_of_lt (Nat.mod_le _ _) (by omega))
  unfold fn_X4_rintFrom
  rw [se_restV hs h9]
  by_cases c : se_m Z % 2 ^ se_k Z = 0
  · rw [if_pos (zr.mpr c), se_takeW hZ _ c]
    exact ⟨s, Z, hs, hZ, rfl, rfl⟩
  · have hb : ¬ se_bh (se_m Z) (se_k Z) = 0 := fun z => c (se_bh0.mp z)
    have hb3 := se_bh3 (se_m Z) (se_k Z)
    have hl := se_like hs hZ c
    have hw := se_wholeLt hZ c
    have hk : 1 ≤ se_k Z := Nat.pos_of_ne_zero (fun z => c (by rw [z, Nat.pow_zero, Nat.mod_one]))
    rw [if_neg (fun q => c (zr.mp q)), se_factor hs h9, se_kV hs h9, se_halfIs hm hk (se_k60 Z), se_halfBh _ _ c]
    unfold fn_X8_taken
    rw [if_pos ((se_end8 hZ).mpr (se_k0 hZ c)), se_pow8' h9, if_pos ((se_pwlt hZ).mpr (se_kh c)), if_pos (show (2 : Int32) = 2 from rfl), se_behind8 h9, se_whole8 h9 (se_kh c), show lN (se_m Z / 2 ^ se_k Z) + ((0 : Int32)).toInt64 = lN (se_m Z / 2 ^ se_k Z + 0) from lN_add _ 0, show lN (se_m Z / 2 ^ se_k Z) + ((1 : Int32)).toInt64 = lN (se_m Z / 2 ^ se_k Z + 1) from lN_add _ 1, se_odd (by omega)]
    have e3 : nI (se_bh (se_m Z) (se_k Z)) = 3 ↔ se_bh (se_m Z) (se_k Z) = 3 := nI_eq (b := 3) (by omega) (by omega)
    have e2 : nI (se_bh (se_m Z) (se_k Z)) = 2 ↔ se_bh (se_m Z) (se_k Z) = 2 := nI_eq (b := 2) (by omega) (by omega)
    have e1 : (lg_cmp (lN (se_m Z / 2 ^ se_k Z % 2)) ((1 : Int64)) = (0 : Int32)) ↔ se_m Z / 2 ^ se_k Z % 2 = 1 := se_neq (b := 1) (by omega) (by omega)
    by_cases d3 : se_bh (se_m Z) (se_k Z) = 3
    · rw [if_pos (e3.mpr d3), if_pos d3]
      exact hl 1 (by omega)
    · rw [if_neg (fun q => d3 (e3.mp q)), if_neg d3]
      by_cases d2 : se_bh (se_m Z) (se_k Z) = 2
      · rw [if_pos (e2.mpr d2), if_pos d2]
        by_cases d1 : se_m Z / 2 ^ se_k Z % 2 = 1
        · rw [if_pos d1, if_pos (e1.mpr d1)]
          exact hl 1 (by omega)
        · rw [if_neg d1, if_neg (fun q => d1 (e1.mp q))]
          exact hl 0 (by omega)
      · rw [if_neg (fun q => d2 (e2.mp q)), if_neg d2]
        exact hl 0 (by omega)
/-! what is asked of one number, of two -/
theorem se_zr {Z : Nat} (h : Z < 2 ^ 63) : (lg_cmp (lN (se_m Z % 2 ^ se_k Z)) ((0 : Int64)) = (0 : Int32)) ↔ se_m Z % 2 ^ se_k Z = 0 :=
  se_z (Nat.lt_of_le_of_lt (Nat.mod_le _ _) (Nat.lt_of_lt_of_le (se_mlt h) (by decide)))
theorem se_sub0 {Z : Nat} (h : Z / 2 ^ 52 = 0) (h0 : ¬ Z = 0) : ¬ se_m Z % 2 ^ se_k Z = 0 := by
  have hm : se_m Z = Z := by unfold se_m; rw [if_pos h]; omega
  have hk : se_k Z = 60 := by unfold se_k; omega
  rw [hm, hk]
  omega
theorem se_kindR {V : Int64} {v : Int32 × Int64} (h : se_R V v) : fn_X0_kindIn V = fn_X8_kind v := by
  obtain ⟨s, Z, hs, hZ, rfl, rfl⟩ := h
  have h9 := se_E63 hZ
  have z0 := se_z (a := Z) (by omega)
  have zh : (nI (Z / 2 ^ 52) = (0 : Int32)) ↔ Z / 2 ^ 52 = 0 := se_nI (b := 0) (by omega) (by omega)
  unfold fn_X0_kindIn fn_X8_kind
  rw [se_sizeV hs h9, se_high (by omega), (se_parts hs h9).2.2, se_restV hs h9, se_high8 h9, se_behind8 h9]
  show (if lg_cmp (lN Z) 0 = 0 then _ else _) = (if lg_cmp (lN Z) 0 = 0 then (if lg_cmp (lN Z) 0 = 0 then _ else _) else _)
  by_cases c0 : Z = 0
  · simp only [if_pos (z0.mpr c0)]
  · simp only [if_neg (mt z0.mp c0)]
    by_cases cE : Z = se_E
    · have e1 : ¬ fn_X0_isEndlessOne (lN (s * 2 ^ 63 + Z)) = 0 := fun q => (se_endV hs hZ).mp q cE
      have e2 : ¬ fn_X8_isEndless (nI s, lN Z) = 0 := fun q => (se_end8 hZ).mp q cE
      have e3 : ¬ nI (Z / 2 ^ 52) = 0 := mt zh.mp (by rw [cE]; decide)
      simp only [if_neg e1, if_neg e2, if_neg e3]
    · have e1 := (se_endV hs hZ).mpr cE
      have e2 := (se_end8 (s := nI s) hZ).mpr cE
      simp only [if_pos e1, if_pos e2]
      by_cases c1 : Z / 2 ^ 52 = 0
      · simp only [if_pos (zh.mpr c1)]
      · simp only [if_neg (mt zh.mp c1)]
        have hb3 := se_bh3 (se_m Z) (se_k Z)
        have e3 : nI (se_bh (se_m Z) (se_k Z)) = 0 ↔ se_m Z % 2 ^ se_k Z = 0 := by
          rw [show (0 : Int32) = nI 0 from rfl, nI_eq (by omega) (by omega)]
          exact se_bh0
        by_cases c2 : se_m Z % 2 ^ se_k Z = 0
        · simp only [if_pos ((se_zr h9).mpr c2), if_pos (e3.mpr c2)]
        · simp only [if_neg (mt (se_zr h9).mp c2), if_neg (mt e3.mp c2)]
theorem se_wholeR {V : Int64} {v : Int32 × Int64} (h : se_R V v) : fn_X0_isWholeOne V = fn_X8_isWhole v := by
  unfold fn_X8_isWhole
  rw [← se_kindR h]
  obtain ⟨s, Z, hs, hZ, rfl, rfl⟩ := h
  have h9 := se_E63 hZ
  have z0 := se_z (a := Z) (by omega)
  have zh : (nI (Z / 2 ^ 52) = (0 : Int32)) ↔ Z / 2 ^ 52 = 0 := se_nI (b := 0) (by omega) (by omega)
  unfold fn_X0_isWholeOne fn_X0_kindIn
  rw [se_sizeV hs h9, se_high (by omega), (se_parts hs h9).2.2, se_restV hs h9]
  by_cases c0 : Z = 0
  · simp only [if_pos (z0.mpr c0)]
    rw [if_pos ((se_zr h9).mpr (by rw [c0]; decide)), if_pos ((se_endV hs hZ).mpr (by rw [c0]; decide))]
    rfl
  · simp only [if_neg (mt z0.mp c0)]
    by_cases cE : Z = se_E
    · have e1 : ¬ fn_X0_isEndlessOne (lN (s * 2 ^ 63 + Z)) = 0 := fun q => (se_endV hs hZ).mp q cE
      have e3 : ¬ nI (Z / 2 ^ 52) = 0 := mt zh.mp (by rw [cE]; decide)
      simp only [if_neg e1, if_neg e3]
      rw [if_neg (show ¬ (4 : Int32) = 0 from by decide), if_neg (show ¬ (4 : Int32) = 3 from by decide)]
      split <;> rfl
    · have e1 := (se_endV hs hZ).mpr cE
      simp only [if_pos e1]
      by_cases c1 : Z / 2 ^ 52 = 0
      · simp only [if_pos (zh.mpr c1)]
        rw [if_neg (mt (se_zr h9).mp (se_sub0 c1 c0))]
        rfl
      · simp only [if_neg (mt zh.mp c1)]
        by_cases c2 : se_m Z % 2 ^ se_k Z = 0
        · simp only [if_pos ((se_zr h9).mpr c2)]
          rfl
        · simp only [if_neg (mt (se_zr h9).mp c2)]
          rfl
theorem se_same {V W : Int64} {v w : Int32 × Int64} (h : se_R V v) (h2 : se_R W w) : V = W ↔ (v.1 = w.1 ∧ v.2 = w.2) := by
  obtain ⟨s, Z, hs, hZ, rfl, rfl⟩ := h
  obtain ⟨r, X, hr, hX, rfl, rfl⟩ := h2
  have h8 := se_E63 hZ
  have h9 := se_E63 hX
  rw [se_inj (by omega) (by omega)]
  show _ ↔ (nI s = nI r ∧ lN Z = lN X)
  rw [se_inj (by omega) (by omega), nI_eq (by omega) (by omega)]
  omega
theorem se_isSameR {V W : Int64} {v w : Int32 × Int64} (h : se_R V v) (h2 : se_R W w) : (if lg_cmp V W = (0 : Int32) then (1 : Int32) else 0) = fn_X8_isSame v w := by
  have e := se_same h h2
  unfold fn_X8_isSame
  by_cases c : V = W
  · obtain ⟨a, b⟩ := e.mp c
    rw [if_pos ((lg_cmp_eq _ _).mpr c), if_pos a, if_pos ((lg_cmp_eq _ _).mpr b)]
  · rw [if_neg (mt (lg_cmp_eq _ _).mp c)]
    by_cases a : v.1 = w.1
    · rw [if_pos a, if_neg (fun z => c (e.mpr ⟨a, (lg_cmp_eq _ _).mp z⟩))]
    · rw [if_neg a]
theorem se_rungR {V : Int64} {v : Int32 × Int64} (h : se_R V v) : fn_X0_rungIn V = fn_X8_rung v := by
  obtain ⟨s, Z, hs, hZ, rfl, rfl⟩ := h
  exact se_rungV hs (se_E63 hZ)
theorem se_rankR {V : Int64} {v : Int32 × Int64} (h : se_R V v) : fn_X0_rankIn V = fn_X8_place v := by
  obtain ⟨s, Z, hs, hZ, rfl, rfl⟩ := h
  exact se_rankV hs (se_E63 hZ)
/-- a number's place tells it -/
theorem se_placeInj {V W : Int64} {v w : Int32 × Int64} (h : se_R V v) (h2 : se_R W w) (e : fn_X8_place v = fn_X8_place w) : V = W ∧ v = w := by
  obtain ⟨s, Z, hs, hZ, rfl, rfl⟩ := h
  obtain ⟨r, X, hr, hX, rfl, rfl⟩ := h2
  have h8 := se_E63 hZ
  have h9 := se_E63 hX
  rw [se_place8 hs, se_place8 hr, se_l_eq (by split <;> omega) (by split <;> omega) (by split <;> omega) (by split <;> omega)] at e
  have e2 : s = r ∧ Z = X := by
    rcases se_s2 hs with rfl | rfl <;> rcases se_s2 hr with rfl | rfl <;> simp only [if_true, if_false, Nat.one_ne_zero] at e <;> omega
  obtain ⟨rfl, rfl⟩ := e2
  exact ⟨rfl, rfl⟩
theorem se_ccle (x y : Int64) (h : (0 : Int32) ≤ lg_cmp x y) : (lg_cmp x y ≤ (0 : Int32)) ↔ lg_cmp x y = (0 : Int32) := by
  rw [lg_cmp_ge] at h
  rw [lg_cmp_le, lg_cmp_eq]
  rw [Int64.le_iff_toInt_le] at h
  rw [Int64.le_iff_toInt_le, ← Int64.toInt_inj]
  omega
theorem se_comp (x y : Int64) : fn_J13_compare_74951 x y = fn_X9_compared x y := by
  unfold fn_J13_compare_74951 fn_X9_compared
  by_cases c : (0 : Int32) ≤ lg_cmp x y
  · rw [if_pos c, if_pos c]
    by_cases d : lg_cmp x y = (0 : Int32)
    · rw [if_pos d, if_pos ((se_ccle x y c).mpr d)]
    · rw [if_neg d, if_neg (mt (se_ccle x y c).mp d)]
  · rw [if_neg c, if_neg c]
theorem se_signR {V : Int64} {v : Int32 × Int64} (h : se_R V v) : fn_X6_signOf V = fn_X9_signOf (fn_X8_rung v) := by
  unfold fn_X6_signOf
  rw [se_rungR h, se_comp]
  rfl
theorem se_orderR {V W : Int64} {v w : Int32 × Int64} (h : se_R V v) (h2 : se_R W w) : fn_X6_orderOf V W = fn_X9_compared (fn_X8_place v) (fn_X8_place w) := by
  unfold fn_X6_orderOf
  rw [se_rankR h, se_rankR h2, se_comp]
theorem se_lastR {V W : Int64} {v w : Int32 × Int64} (h : se_R V v) (h2 : se_R W w) : se_R (fn_X0_lastOf V W) (if lg_cmp (fn_X8_place v) (fn_X8_place w) ≤ (0 : Int32) then w else v) := by
  unfold fn_X0_lastOf
  rw [se_rankR h, se_rankR h2]
  by_cases a : lg_cmp (fn_X8_place v) (fn_X8_place w) < (0 : Int32)
  · rw [if_pos a, if_pos (by rw [Int32.lt_iff_toInt_lt] at a; rw [Int32.le_iff_toInt_le]; omega)]
    exact h2
  · rw [if_neg a]
    by_cases b : lg_cmp (fn_X8_place v) (fn_X8_place w) ≤ (0 : Int32)
    · have e : fn_X8_place v = fn_X8_place w := by
        rw [lg_cmp_lt, Int64.lt_iff_toInt_lt] at a
        rw [lg_cmp_le, Int64.le_iff_toInt_le] at b
        exact Int64.toInt_inj.mp (by omega)
      rw [if_pos b, (se_placeInj h h2 e).1]
      exact h2
    · rw [if_neg b]
      exact h
theorem se_firstR {V W : Int64} {v w : Int32 × Int64} (h : se_R V v) (h2 : se_R W w) : se_R (fn_X0_firstOf V W) (if lg_cmp (fn_X8_place v) (fn_X8_place w) ≤ (0 : Int32) then v else w) := by
  unfold fn_X0_firstOf
  rw [se_rankR h, se_rankR h2]
  by_cases a : lg_cmp (fn_X8_place v) (fn_X8_place w) ≤ (0 : Int32)
  · rw [if_pos a, if_neg (by rw [Int32.lt_iff_toInt_lt]; rw [Int32.le_iff_toInt_le] at a; omega)]
    exact h
  · rw [if_neg a, if_pos (by rw [Int32.lt_iff_toInt_lt]; rw [Int32.le_iff_toInt_le] at a; omega)]
    exact h2
theorem se_high9 {V : Int64} {v : Int32 × Int64} (h : se_R V v) : fn_X0_highIn V = fn_X8_high v := by
  obtain ⟨s, Z, hs, hZ, rfl, rfl⟩ := h
  have h9 := se_E63 hZ
  rw [se_high (by omega), (se_parts hs h9).2.2, se_high8 h9]
theorem se_low9 {V : Int64} {v : Int32 × Int64} (h : se_R V v) : fn_X0_lowIn V = fn_X8_low v ∧ jlushr (fn_X0_lowIn V) 32 = jlshr (fn_X8_low v) 32 := by
  obtain ⟨s, Z, hs, hZ, rfl, rfl⟩ := h
  have h9 := se_E63 hZ
  have e1 : fn_X0_lowIn (lN (s * 2 ^ 63 + Z)) = lN (Z % 2 ^ 52) := by rw [se_low (by omega), (se_parts hs h9).2.1]
  rw [e1, se_low8 h9]
  refine ⟨rfl, ?_⟩
  rw [show (32 : Int32) = nI 32 from rfl, se_shr 32 (by omega) (by omega), se_asr 32 (by omega) (by omega)]
theorem se_digR {V : Int64} {v : Int32 × Int64} (h : se_R V v) (a : Int32) (h0 : (0 : Int32) ≤ a) (h3 : a ≤ (3 : Int32)) : fn_X0_digitsIn V a = (if (2 : Int32) ≤ a then (if a = (2 : Int32) then (jlshr (fn_X8_low v) 32).toInt32 else (fn_X8_low v).toInt32) else if a = (0 : Int32) then v.1 else fn_X8_high v) := by
  unfold fn_X0_digitsIn
  rw [(se_low9 h).2, (se_low9 h).1, se_high9 h]
  have e : a = 0 ∨ a = 1 ∨ a = 2 ∨ a = 3 := by
    rw [Int32.le_iff_toInt_le, show (0 : Int32).toInt = 0 from rfl] at h0
    rw [Int32.le_iff_toInt_le, show (3 : Int32).toInt = 3 from rfl] at h3
    simp only [← Int32.toInt_inj, show (0 : Int32).toInt = 0 from rfl, show (1 : Int32).toInt = 1 from rfl, show (2 : Int32).toInt = 2 from rfl, show (3 : Int32).toInt = 3 from rfl]
    omega
  rcases e with rfl | rfl | rfl | rfl
  · rw [if_pos (show (0 : Int32) = 0 from rfl), if_neg (show ¬ (2 : Int32) ≤ 0 from by decide), if_pos (show (0 : Int32) = 0 from rfl)]
    obtain ⟨s, Z, hs, hZ, rfl, rfl⟩ := h
    rw [se_downV hs (se_E63 hZ)]
    show (if nI s = 0 then (0 : Int32) else 1) = nI s
    rcases se_s2 hs with rfl | rfl <;> rfl
  · rw [if_neg (show ¬ (1 : Int32) = 0 from by decide), if_pos (show (1 : Int32) = 1 from rfl), if_neg (show ¬ (2 : Int32) ≤ 1 from by decide), if_neg (show ¬ (1 : Int32) = 0 from by decide)]
  · rw [if_neg (show ¬ (2 : Int32) = 0 from by decide), if_neg (show ¬ (2 : Int32) = 1 from by decide), if_pos (show (2 : Int32) = 2 from rfl), if_pos (show (2 : Int32) ≤ 2 from by decide)]
  · rw [if_neg (show ¬ (3 : Int32) = 0 from by decide), if_neg (show ¬ (3 : Int32) = 1 from by decide), if_neg (show ¬ (3 : Int32) = 2 from by decide), if_pos (show (2 : Int32) ≤ 3 from by decide)]
/-! whole numbers that are told -/
theorem se_pwle {Z : Nat} (hZ : Z ≤ se_E) : (se_i (se_pw Z) ≤ (10 : Int32)) ↔ Z / 2 ^ 52 ≤ 1085 := by
  have := se_Eh hZ
  rw [show (10 : Int32) = se_i 10 from rfl, se_i_le (by unfold se_pw; omega) (by unfold se_pw; omega) (by omega) (by omega)]
  unfold se_pw
  omega
theorem se_pw11 {Z : Nat} (hZ : Z ≤ se_E) : (se_i (se_pw Z) < (11 : Int32)) ↔ Z / 2 ^ 52 ≤ 1085 := by
  have := se_Eh hZ
  rw [show (11 : Int32) = se_i 11 from rfl, se_i_lt (by unfold se_pw; omega) (by unfold se_pw; omega) (by omega) (by omega)]
  unfold se_pw
  omega
theorem se_pw0 {Z : Nat} (hZ : Z ≤ se_E) : (se_i (se_pw Z) ≤ (0 : Int32)) ↔ Z / 2 ^ 52 ≤ 1075 := by
  have := se_Eh hZ
  rw [show (0 : Int32) = se_i 0 from rfl, se_i_le (by unfold se_pw; omega) (by unfold se_pw; omega) (by omega) (by omega)]
  unfold se_pw
  omega
theorem se_Ebig {Z : Nat} (h : Z = se_E) : ¬ Z / 2 ^ 52 ≤ 1085 := by
  rw [h]; decide
/-- with its side -/
def se_sd (s : Nat) (x : Int64) : Int64 := if nI s = (0 : Int32) then x else -x
theorem se_cutV {s Z : Nat} (hs : s < 2) (hZ : Z ≤ se_E) : fn_X5_cutFrom (lN (s * 2 ^ 63 + Z)) = (if Z / 2 ^ 52 ≤ 1085 then (if Z / 2 ^ 52 < 1075 then se_sd s (lN (se_m Z / 2 ^ se_k Z)) else se_sd s (jlshl (lN (se_m Z)) (se_i (se_pw Z)))) else if nI s = (0 : Int32) then (9223372036854775807 : Int64) else (-9223372036854775808 : Int64)) := by
  have h9 := se_E63 hZ
  have hm := se_mlt h9
  unfold fn_X5_cutFrom se_sd
  rw [se_powV hs h9, se_downV hs h9, se_factor hs h9, se_kV hs h9, se_shr _ (by omega) (by have := se_k60 Z; omega)]
  by_cases a : Z / 2 ^ 52 ≤ 1085
  · rw [if_pos ((se_pw11 hZ).mpr a), if_pos a]
    by_cases b : Z / 2 ^ 52 ≤ 1075
    · rw [if_pos ((se_pw0 hZ).mpr b)]
      by_cases c : Z / 2 ^ 52 < 1075
      · rw [if_pos c]
      · rw [if_neg c, show se_k Z = 0 by unfold se_k; omega, show se_pw Z = ((0 : Nat) : Int) by unfold se_pw; omega, ← se_i_nat, se_shl _ _ (by omega), Nat.pow_zero, Nat.div_one, Nat.mul_one]
    · rw [if_neg (mt (se_pw0 hZ).mp b), if_neg (show ¬ Z / 2 ^ 52 < 1075 by omega)]
  · rw [if_neg (mt (se_pw11 hZ).mp a), if_neg a]
theorem se_cutR {V : Int64} {v : Int32 × Int64} (h : se_R V v) : fn_X5_cutFrom V = fn_X8_rounded 1 v := by
  obtain ⟨s, Z, hs, hZ, rfl, rfl⟩ := h
  have h9 := se_E63 hZ
  rw [se_cutV hs hZ]
  unfold fn_X8_rounded
  rw [se_pow8' h9, se_many h9]
  by_cases a : Z / 2 ^ 52 ≤ 1085
  · rw [if_pos a, if_pos ((se_end8 hZ).mpr (fun z => se_Ebig z a)), if_pos ((se_pwle hZ).mpr a)]
    by_cases c : Z / 2 ^ 52 < 1075
    · rw [if_pos c, if_pos ((se_pwlt hZ).mpr c), if_neg (show ¬ (1 : Int32) = 0 from by decide), se_whole8 h9 c, show lN (se_m Z / 2 ^ se_k Z) + ((0 : Int32)).toInt64 = lN (se_m Z / 2 ^ se_k Z) from lN_add _ 0]
      rfl
    · rw [if_neg c, if_neg (mt (se_pwlt hZ).mp c)]
      rfl
  · rw [if_neg a]
    by_cases e : Z = se_E
    · rw [if_neg (fun q => (se_end8 hZ).mp q e)]
    · rw [if_pos ((se_end8 hZ).mpr e), if_neg (mt (se_pwle hZ).mp a)]
theorem se_roundR {V : Int64} {v : Int32 × Int64} (h : se_R V v) : fn_X5_roundFrom V = fn_X8_rounded 0 v := by
  have hc := se_cutR h
  obtain ⟨s, Z, hs, hZ, rfl, rfl⟩ := h
  have h9 := se_E63 hZ
  have hm := se_mlt h9
  have hk := se_k60 Z
  have hb3 := se_bh3 (se_m Z) (se_k Z)
  have p1 := se_p60 hk
  have p2 := se_p2 (se_k Z)
  have p5 : se_m Z % 2 ^ se_k Z < 2 ^ se_k Z := Nat.mod_lt _ p2
  have p6 : se_m Z / 2 ^ se_k Z ≤ se_m Z := Nat.div_le_self _ _
  unfold fn_X5_roundFrom
  rw [se_kV hs h9, se_restV hs h9, se_downV hs h9]
  by_cases c : Z / 2 ^ 52 < 1075
  · have hk1 : 1 ≤ se_k Z := by unfold se_k; omega
    have p3 : 2 ^ (se_k Z - 1) < 2 ^ se_k Z := Nat.pow_lt_pow_right (by decide) (by omega)
    have p4 := se_p2 (se_k Z - 1)
    rw [if_neg (nI_ne0 hk1 (by omega)), se_1shl' _ hk1 hk, se_cutV hs hZ, if_pos (show Z / 2 ^ 52 ≤ 1085 by omega), if_pos c]
    unfold fn_X8_rounded se_sd
    rw [if_pos ((se_end8 hZ).mpr (fun z => by rw [z] at c; exact absurd c (by decide))), se_pow8' h9, if_pos ((se_pwle hZ).mpr (by omega)), if_pos ((se_pwlt hZ).mpr c), if_pos (show (0 : Int32) = 0 from rfl), se_behind8 h9, se_whole8 h9 c, show lN (se_m Z / 2 ^ se_k Z) + ((0 : Int32)).toInt64 = lN (se_m Z / 2 ^ se_k Z) from lN_add _ 0, show lN (se_m Z / 2 ^ se_k Z) + ((1 : Int32)).toInt64 = lN (se_m Z / 2 ^ se_k Z + 1) from lN_add _ 1]
    have c1 := se_nlt (a := se_m Z % 2 ^ se_k Z) (b := 2 ^ (se_k Z - 1)) (by omega) (by omega)
    have c2 := se_nle (a := se_m Z % 2 ^ se_k Z) (b := 2 ^ (se_k Z - 1)) (by omega) (by omega)
    have e3 : nI (se_bh (se_m Z) (se_k Z)) = 3 ↔ se_bh (se_m Z) (se_k Z) = 3 := nI_eq (b := 3) (by omega) (by omega)
    have e2 : nI (se_bh (se_m Z) (se_k Z)) = 2 ↔ se_bh (se_m Z) (se_k Z) = 2 := nI_eq (b := 2) (by omega) (by omega)
    have b3 : se_bh (se_m Z) (se_k Z) = 3 ↔ 2 ^ (se_k Z - 1) < se_m Z % 2 ^ se_k Z := by
      unfold se_bh
      (repeat' split) <;> omega
    have b2 : se_bh (se_m Z) (se_k Z) = 2 ↔ se_m Z % 2 ^ se_k Z = 2 ^ (se_k Z - 1) := by
      unfold se_bh
      (repeat' split) <;> omega
    have eu : lN (se_m Z / 2 ^ se_k Z) + ((1 : Int64)) = lN (se_m Z / 2 ^ se_k Z + 1) := lN_1 _
    have ed : -lN (se_m Z / 2 ^ se_k Z) - ((1 : Int64)) = -lN (se_m Z / 2 ^ se_k Z + 1) := by
      rw [se_l_nat, se_l_nat, show (1 : Int64) = se_l 1 from rfl, se_l_neg, se_l_neg, se_l_sub, show -((se_m Z / 2 ^ se_k Z : Nat) : Int) - 1 = -((se_m Z / 2 ^ se_k Z + 1 : Nat) : Int) by omega]
    generalize hA : lN (se_m Z / 2 ^ se_k Z) = A at eu ed ⊢
    generalize hB : lN (se_m Z / 2 ^ se_k Z + 1) = B at eu ed ⊢
    generalize hC : lg_cmp (lN (se_m Z % 2 ^ se_k Z)) (lN (2 ^ (se_k Z - 1))) = C at c1 c2 ⊢
    generalize hN : nI (se_bh (se_m Z) (se_k Z)) = N at e3 e2 ⊢
    show (if nI s = 0 then (if C < 0 then (if nI s = 0 then A else -A) else (if nI s = 0 then A else -A) + 1) else (if C ≤ 0 then (if nI s = 0 then A else -A) else (if nI s = 0 then A else -A) - 1)) = (if N = 3 then (if nI s = 0 then B else -B) else (if N = 2 then (if nI s = 0 then (if nI s = 0 then B else -B) else (if nI s = 0 then A else -A)) else (if nI s = 0 then A else -A)))
    by_cases d : nI s = (0 : Int32)
    · rw [if_pos d, if_pos d, if_pos d, if_pos d, eu]
      by_cases x3 : se_bh (se_m Z) (se_k Z) = 3
      · have := b3.mp x3
        rw [if_pos (e3.mpr x3), if_neg (mt c1.mp (by omega))]
      · rw [if_neg (mt e3.mp x3)]
        by_cases x2 : se_bh (se_m Z) (se_k Z) = 2
        · have := b2.mp x2
          rw [if_pos (e2.mpr x2), if_neg (mt c1.mp (by omega))]
        · have h1 := mt b3.mpr x3
          have h2 := mt b2.mpr x2
          rw [if_neg (mt e2.mp x2), if_pos (c1.mpr (by omega))]
    · rw [if_neg d, if_neg d, if_neg d, if_neg d, ed]
      by_cases x3 : se_bh (se_m Z) (se_k Z) = 3
      · have := b3.mp x3
        rw [if_pos (e3.mpr x3), if_neg (mt c2.mp (by omega))]
      · rw [if_neg (mt e3.mp x3)]
        have h1 := mt b3.mpr x3
        by_cases x2 : se_bh (se_m Z) (se_k Z) = 2
        · rw [if_pos (e2.mpr x2), if_pos (c2.mpr (by omega))]
        · rw [if_neg (mt e2.mp x2), if_pos (c2.mpr (by omega))]
  · have hk0 : se_k Z = 0 := by unfold se_k; omega
    rw [if_pos (by rw [hk0]; rfl), hc]
    unfold fn_X8_rounded
    rw [se_pow8' h9]
    simp only [if_neg (mt (se_pwlt hZ).mp c)]
theorem se_shortR {V : Int64} {v : Int32 × Int64} (h : se_R V v) : fn_X5_shortFrom V = (jlmax ((-2147483648 : Int64)) (jlmin ((2147483647 : Int64)) (fn_X8_rounded ((1 : Int32)) v))).toInt32 := by
  unfold fn_X5_shortFrom
  rw [se_cutR h]
theorem se_apartR {V W : Int64} {v w : Int32 × Int64} (h : se_R V v) (h2 : se_R W w) : fn_X6_stepsBetween V W = (if (lg_cmp (fn_X8_rung w) (fn_X8_rung v)) < (0 : Int32) then (-1 : Int32) else (if (lg_cmp (fn_X8_rung w) ((fn_X8_rung v) + ((40 : Int64)))) ≤ (0 : Int32) then ((fn_X8_rung w) - (fn_X8_rung v)).toInt32 else (-1 : Int32))) := by
  unfold fn_X6_stepsBetween
  rw [se_rungR h, se_rungR h2]
  obtain ⟨s, Z, hs, hZ, -, rfl⟩ := h
  obtain ⟨r, X, hr, hX, -, rfl⟩ := h2
  have hE : se_E = 9218868437227405312 := rfl
  rw [se_rung8 hs, se_rung8 hr]
  obtain ⟨a, ha⟩ : ∃ a : Int, a = if s = 0 then (Z : Int) else - (Z : Int) := ⟨_, rfl⟩
  obtain ⟨b, hb⟩ : ∃ b : Int, b = if r = 0 then (X : Int) else - (X : Int) := ⟨_, rfl⟩
  rw [← ha, ← hb]
  have a1 : -9218868437227405312 ≤ a ∧ a ≤ 9218868437227405312 := by rw [ha]; split <;> omega
  have b1 : -9218868437227405312 ≤ b ∧ b ≤ 9218868437227405312 := by rw [hb]; split <;> omega
  clear ha hb hs hr hZ hX
  rw [show (40 : Int64) = se_l 40 from rfl, show (0 : Int64) = se_l 0 from rfl, se_l_add, se_l_sub]
  have c1 := se_clt (a := b) (b := a) (by omega) (by omega) (by omega) (by omega)
  have c2 := se_cle (a := b) (b := a + 40) (by omega) (by omega) (by omega) (by omega)
  by_cases q : b < a
  · rw [if_pos (c1.mpr q), if_pos (c1.mpr q)]
  · rw [if_neg (mt c1.mp q), if_neg (mt c1.mp q)]
    by_cases t : b - a < 9223372036854775808
    · have c3 := se_clt (a := b - a) (b := 0) (by omega) (by omega) (by omega) (by omega)
      have c4 := se_cle (a := b - a) (b := 40) (by omega) (by omega) (by omega) (by omega)
      rw [if_neg (mt c3.mp (by omega))]
      by_cases t2 : b - a ≤ 40
      · rw [if_pos (c4.mpr t2), if_pos (c2.mpr (by omega))]
      · rw [if_neg (mt c4.mp t2), if_neg (mt c2.mp (by omega))]
    · have e : se_l (b - a) = se_l (b - a - 18446744073709551616) := by
        rw [← se_l_sub (b - a) 18446744073709551616, show se_l 18446744073709551616 = 0 from by decide, Int64.sub_zero]
      have c3 := se_clt (a := b - a - 18446744073709551616) (b := 0) (by omega) (by omega) (by omega) (by omega)
      rw [e, if_pos (c3.mpr (by omega)), if_neg (mt c2.mp (by omega))]
/-! the board and the reference: their cells, what was given, refused, knocked -/
def ky_SI (u : ky_BS) (w : ky_MV) : Prop := (∀ j, j < 6 → se_R (u.1 j) (w.2.2.2.2 j)) ∧ u.2.1 = w.2.1 ∧ u.2.2.1 = w.2.2.1 ∧ u.2.2.2 = w.2.2.2.1
theorem si_thr {u : ky_BS} {w : ky_MV} (q : Int32) (h : ky_SI u w) : ky_SI u (q, w.2) := h
theorem si_start : ky_SI (fun _ => 0, 0, 0, 0) (0, 0, 0, 0, fun _ => (0, 0)) := ⟨fun _ _ => ⟨0, 0, by omega, Nat.zero_le _, rfl, rfl⟩, rfl, rfl, rfl⟩
def sj_in (a : Int32) : Prop := (0 : Int32) ≤ a ∧ a < 6
theorem sj_in.j {a : Int32} (h : sj_in a) : a.toNatClampNeg < 6 := by
  obtain ⟨h1, h2⟩ := h
  rw [Int32.le_iff_toInt_le, show (0 : Int32).toInt = 0 from rfl] at h1
  rw [Int32.lt_iff_toInt_lt, show (6 : Int32).toInt = 6 from rfl] at h2
  show a.toInt.toNat < 6
  omega
theorem ky_SI.cell {u : ky_BS} {w : ky_MV} (h : ky_SI u w) {a : Int32} (ha : sj_in a) : se_R ((u.1) (a).toNatClampNeg) ((w.2.2.2.2) (a).toNatClampNeg) := h.1 _ ha.j
/-- what a call answers, throws and leaves: the board's and the reference's -/
def sj (x : Sum String (Int32 × ky_BS)) (u : ky_BS) (nn : Int64) (y : Int32 × ky_MV) : Prop := ky_SI (ky_lw x u nn).2.1 y.2 ∧ y.2.1 = (ky_lw x u nn).1 ∧ ((ky_lw x u nn).1 = 0 → (ky_lw x u nn).2.2 = y.1.toInt64)
def sjb (x : Sum String (Int32 × ky_BS)) (u : ky_BS) (nn : Int64) (y : Int32 × ky_MV) : Prop := ky_SI (ky_lwb x u nn).2.1 y.2 ∧ y.2.1 = (ky_lwb x u nn).1 ∧ ((ky_lwb x u nn).1 = 0 → (ky_lwb x u nn).2.2 = if y.1 = 0 then 0 else 1)
def sj1 (x : Sum String (Int32 × ky_BS)) (u : ky_BS) (nn : Int64) (y : Int32 × ky_MV) : Prop := ky_SI (ky_lw1 x u nn).2.1 y.2 ∧ y.2.1 = (ky_lw1 x u nn).1 ∧ ((ky_lw1 x u nn).1 = 0 → (ky_lw1 x u nn).2.2 = y.1.toInt64)
theorem sj_io {u : ky_BS} {w : ky_MV} {nn : Int64} {r t : Int32} (h : ky_SI u w) (ht : t = 1) : sj (.inl "java/lang/IndexOutOfBoundsException") u nn (r, (t, w.2.1, w.2.2.1, w.2.2.2.1, w.2.2.2.2)) := by
  unfold sj
  rw [ky_lw_io]
  exact ⟨h, ht, fun z => absurd (show (1 : Int32) = 0 from z) (by decide)⟩
theorem sjb_io {u : ky_BS} {w : ky_MV} {nn : Int64} {r t : Int32} (h : ky_SI u w) (ht : t = 1) : sjb (.inl "java/lang/IndexOutOfBoundsException") u nn (r, (t, w.2.1, w.2.2.1, w.2.2.2.1, w.2.2.2.2)) := by
  unfold sjb
  rw [ky_lwb_io]
  exact ⟨h, ht, fun z => absurd (show (1 : Int32) = 0 from z) (by decide)⟩
theorem sj_ia {u : ky_BS} {w : ky_MV} {nn : Int64} {r t : Int32} (h : ky_SI u w) (ht : t = 2) : sj (.inl "java/lang/IllegalArgumentException") u nn (r, (t, w.2.1, w.2.2.1, w.2.2.2.1, w.2.2.2.2)) := by
  unfold sj
  rw [ky_lw_ia]
  exact ⟨h, ht, fun z => absurd (show (2 : Int32) = 0 from z) (by decide)⟩
theorem sjb_ia {u : ky_BS} {w : ky_MV} {nn : Int64} {r t : Int32} (h : ky_SI u w) (ht : t = 2) : sjb (.inl "java/lang/IllegalArgumentException") u nn (r, (t, w.2.1, w.2.2.1, w.2.2.2.1, w.2.2.2.2)) := by
  unfold sjb
  rw [ky_lwb_ia]
  exact ⟨h, ht, fun z => absurd (show (2 : Int32) = 0 from z) (by decide)⟩
theorem sj1_ia {u : ky_BS} {w : ky_MV} {nn : Int64} {r t : Int32} {E : String} (h : ky_SI u w) (ht : t = 1) : sj1 (.inl E) u nn (r, (t, w.2.1, w.2.2.1, w.2.2.2.1, w.2.2.2.2)) := by
  unfold sj1
  rw [ky_lw1_ia]
  exact ⟨h, ht, fun z => absurd (show (1 : Int32) = 0 from z) (by decide)⟩
theorem sj_val {u : ky_BS} {w : ky_MV} {nn : Int64} {r q t : Int32} (h : ky_SI u w) (ht : t = 0) (hr : r = q) : sj (.inr (r, u)) u nn (q, (t, w.2.1, w.2.2.1, w.2.2.2.1, w.2.2.2.2)) := ⟨h, ht, fun _ => by rw [← hr]; rfl⟩
theorem sj1_val {u : ky_BS} {w : ky_MV} {nn : Int64} {r q t : Int32} (h : ky_SI u w) (ht : t = 0) (hr : r = q) : sj1 (.inr (r, u)) u nn (q, (t, w.2.1, w.2.2.1, w.2.2.2.1, w.2.2.2.2)) := ⟨h, ht, fun _ => by rw [← hr]; rfl⟩
theorem sjb_val {u : ky_BS} {w : ky_MV} {nn : Int64} {r q t : Int32} (h : ky_SI u w) (ht : t = 0) (hr : r = q) : sjb (.inr (r, u)) u nn (q, (t, w.2.1, w.2.2.1, w.2.2.2.1, w.2.2.2.2)) := ⟨h, ht, fun _ => by rw [← hr]; rfl⟩
theorem si_put {u : ky_BS} {w : ky_MV} (h : ky_SI u w) {i : Nat} {V : Int64} {v : Int32 × Int64} (hR : se_R V v) {t : Int32} : ky_SI (vp_updL (u.1) i V, (u.2.1) + ((1 : Int32)), u.2.2.1, u.2.2.2) (t, (w.2.1) + ((1 : Int32)), w.2.2.1, w.2.2.2.1, ky_vu (w.2.2.2.2) i v) := by
  refine ⟨fun j hj => ?_, ?_, h.2.2.1, h.2.2.2⟩
  · show se_R (vp_updL u.1 i V j) (ky_vu w.2.2.2.2 i v j)
    unfold vp_updL ky_vu
    by_cases e : j = i
    · rw [if_pos e, if_pos e]; exact hR
    · rw [if_neg e, if_neg e]; exact h.1 j hj
  · show u.2.1 + 1 = w.2.1 + 1
    rw [h.2.1]
theorem sj_give {u : ky_BS} {w : ky_MV} {nn : Int64} {t : Int32} {a : Int32} {V : Int64} {v : Int32 × Int64} (h : ky_SI u w) (ht : t = 0) (hR : se_R V v) : sj (.inr ((fn_X6_give a V u).1, (fn_X6_give a V u).2)) u nn ((fn_X9_give a v (t, w.2.1, w.2.2.1, w.2.2.2.1, w.2.2.2.2)).1, (fn_X9_give a v (t, w.2.1, w.2.2.1, w.2.2.2.1, w.2.2.2.2)).2) := by
  refine ⟨si_put h hR, ht, fun _ => ?_⟩
  show (fn_X0_kindIn V).toInt64 = (fn_X8_kind v).toInt64
  rw [se_kindR hR]
/-! what both refuse first -/
theorem zq_cell (a : Int32) : (sj_in a ∧ fn_X9_isNo a = 0 ∧ fn_X6_requireCell a = .inr ((), ())) ∨ (fn_X9_isNo a = 1 ∧ fn_X6_requireCell a = .inl "java/lang/IndexOutOfBoundsException") := by
  obtain ⟨h1, h2⟩ := zr_in a
  by_cases h : (0 : Int32) ≤ a ∧ a < 6
  · exact Or.inl ⟨h, h1 h⟩
  · exact Or.inr (h2 h)
theorem zq_both (a b : Int32) : (sj_in a ∧ sj_in b ∧ fn_X9_areNo a b = 0 ∧ fn_X6_requireBoth a b = .inr ((), ())) ∨ (fn_X9_areNo a b = 1 ∧ fn_X6_requireBoth a b = .inl "java/lang/IndexOutOfBoundsException") := by
  unfold fn_X9_areNo fn_X6_requireBoth
  rcases zq_cell a with ⟨ha, k1, k2⟩ | ⟨k1, k2⟩
  · rw [k1, k2, if_pos rfl]
    rcases zq_cell b with ⟨hb, k3, k4⟩ | ⟨k3, k4⟩
    · rw [k3, k4]; exact Or.inl ⟨ha, hb, rfl, rfl⟩
    · rw [k3, k4]; exact Or.inr ⟨rfl, rfl⟩
  · rw [k1, k2]; exact Or.inr ⟨rfl, rfl⟩
theorem zq_within (a b c : Int32) : (b ≤ a ∧ a ≤ c ∧ fn_X9_isOf a b c = 1 ∧ fn_X6_requireWithin a b c = .inr ((), ())) ∨ (fn_X9_isOf a b c = 0 ∧ fn_X6_requireWithin a b c = .inl "java/lang/IllegalArgumentException") := by
  unfold fn_X9_isOf fn_X6_requireWithin
  by_cases h : a < b
  · rw [if_pos h, if_pos h]; exact Or.inr ⟨rfl, rfl⟩
  · rw [if_neg h, if_neg h]
    have h1 : b ≤ a := by rw [Int32.lt_iff_toInt_lt] at h; rw [Int32.le_iff_toInt_le]; omega
    by_cases k : a ≤ c
    · rw [if_pos k, if_neg (by rw [Int32.lt_iff_toInt_lt]; rw [Int32.le_iff_toInt_le] at k; omega)]
      exact Or.inl ⟨h1, k, rfl, rfl⟩
    · rw [if_neg k, if_pos (by rw [Int32.lt_iff_toInt_lt]; rw [Int32.le_iff_toInt_le] at k; omega)]
      exact Or.inr ⟨rfl, rfl⟩
theorem zq_j : jst 0 = 0 ∧ ¬ jst 1 = 0 := ⟨rfl, by decide⟩
theorem zq_b {α β γ : Type} (a : α) (b : β) (k : α → β → Sum String γ) : ky_b (.inr (a, b)) k = k a b := rfl
theorem zq_e {α β γ : Type} (E : String) (k : α → β → Sum String γ) : ky_b (.inl E : Sum String (α × β)) k = .inl E := rfl
theorem se_withSide {Z : Nat} (hZ : Z ≤ se_E) {b : Int32} (hb : b = 0 ∨ b = 1) : se_R (fn_X0_withSide (lN Z) b) (fn_X9_one b, lN Z) := by
  have h9 := se_E63 hZ
  rcases hb with rfl | rfl
  · rw [se_side0]
    exact ⟨0, Z, by omega, hZ, by rw [Nat.zero_mul, Nat.zero_add], rfl⟩
  · rw [se_side1 h9]
    exact ⟨1, Z, by omega, hZ, by rw [Nat.one_mul], rfl⟩
theorem sj_zero (a b : Int32) (hb : b = 0 ∨ b = 1) (u : ky_BS) (nn : Int64) (w : ky_MV) (h : ky_SI u w) : sj (fn_X6_zero a b u) u nn (fn_X9_zero a b w) := by
  unfold fn_X6_zero fn_X9_zero
  rcases zq_cell a with ⟨ha, k1, k2⟩ | ⟨k1, k2⟩
  · rw [k1, k2, zq_b, if_pos zq_j.1]
    exact sj_give h rfl (se_withSide (Z := 0) (Nat.zero_le _) hb)
  · rw [k1, k2, zq_e, if_neg zq_j.2]
    exact sj_io h rfl
theorem sj_endless (a b : Int32) (hb : b = 0 ∨ b = 1) (u : ky_BS) (nn : Int64) (w : ky_MV) (h : ky_SI u w) : sj (fn_X6_endless a b u) u nn (fn_X9_endless a b w) := by
  unfold fn_X6_endless fn_X9_endless
  rcases zq_cell a with ⟨ha, k1, k2⟩ | ⟨k1, k2⟩
  · rw [k1, k2, zq_b, if_pos zq_j.1]
    exact sj_give h rfl (se_withSide (Z := se_E) (Nat.le_refl _) hb)
  · rw [k1, k2, zq_e, if_neg zq_j.2]
    exact sj_io h rfl
theorem se_quart (b : Int32) : ∃ Z, Z ≤ se_E ∧ fn_X2_nearestTo (jlabs b.toInt64) ((-2 : Int32)) = lN Z ∧ fn_X9_nearest (if (0 : Int32) ≤ b then b.toInt64 else -b.toInt64) ((-2 : Int64)) = lN Z := by
  have hk1 := Int32.le_toInt b
  have hk2 := Int32.toInt_lt b
  rw [se_i_self b]
  generalize b.toInt = q at hk1 hk2 ⊢
  rw [se_il (by omega) (by omega)]
  obtain ⟨Z, hZ, e1, e2⟩ := se_near (M := q.natAbs) (e := -2) (by omega) (by omega) (by omega)
  refine ⟨Z, hZ, ?_, ?_⟩
  · rw [show jlabs (se_l q) = lN q.natAbs from ?_]
    · exact e1
    · unfold jlabs
      rw [show (0 : Int64) = se_l 0 from rfl, se_l_nat, se_l_neg]
      by_cases c : 0 < q
      · rw [if_pos ((se_l_lt (by omega) (by omega) (by omega) (by omega)).mpr c), show ((q.natAbs : Nat) : Int) = q by omega]
      · rw [if_neg (mt (se_l_lt (by omega) (by omega) (by omega) (by omega)).mp c), show ((q.natAbs : Nat) : Int) = -q by omega]
  · rw [show (if (0 : Int32) ≤ se_i q then se_l q else -se_l q) = lN q.natAbs from ?_]
    · exact e2
    · rw [show (0 : Int32) = se_i 0 from rfl, se_l_nat, se_l_neg]
      by_cases c : 0 ≤ q
      · rw [if_pos ((se_i_le (by omega) (by omega) (by omega) (by omega)).mpr c), show ((q.natAbs : Nat) : Int) = q by omega]
      · rw [if_neg (mt (se_i_le (by omega) (by omega) (by omega) (by omega)).mp c), show ((q.natAbs : Nat) : Int) = -q by omega]
theorem sj_quarters (a b : Int32) (u : ky_BS) (nn : Int64) (w : ky_MV) (h : ky_SI u w) : sj (fn_X6_quarters a b u) u nn (fn_X9_quarters a b w) := by
  unfold fn_X6_quarters fn_X9_quarters
  rcases zq_cell a with ⟨ha, k1, k2⟩ | ⟨k1, k2⟩
  · rw [k1, k2, zq_b, if_pos zq_j.1]
    obtain ⟨Z, hZ, e1, e2⟩ := se_quart b
    by_cases c : (0 : Int32) ≤ b
    · rw [if_pos c] at e2
      rw [if_pos c, if_pos c, if_pos c, e1, e2]
      exact sj_give h rfl (se_withSide hZ (Or.inl rfl))
    · rw [if_neg c] at e2
      rw [if_neg c, if_neg c, if_neg c, e1, e2]
      exact sj_give h rfl (se_withSide hZ (Or.inr rfl))
  · rw [k1, k2, zq_e, if_neg zq_j.2]
    exact sj_io h rfl
theorem se_pwr (k : Int32) : ∃ Z, Z ≤ se_E ∧ fn_X2_timesPower ((4607182418800017408 : Int64)) k = lN Z ∧ fn_X9_nearest ((1 : Int64)) k.toInt64 = lN Z := by
  have hR : se_R ((4607182418800017408 : Int64)) (0, lN 4607182418800017408) := ⟨0, 4607182418800017408, by omega, by decide, by decide, rfl⟩
  have hk1 := Int32.le_toInt k
  have hk2 := Int32.toInt_lt k
  obtain ⟨s, Z, hs, hZ, e1, e2⟩ := hR.times k
  have e3 : fn_X8_times k.toInt64 (0, lN 4607182418800017408) = (0, fn_X9_nearest (lN (2 ^ 52)) (se_l (k.toInt - 52))) := by
    unfold fn_X8_times
    rw [if_neg (show ¬ lg_cmp (lN 4607182418800017408) 0 = 0 from by decide), if_pos (show fn_X8_isEndless (0, lN 4607182418800017408) = 0 from by decide), show fn_X8_many (0, lN 4607182418800017408) = lN (2 ^ 52) from by decide, show (fn_X8_power (0, lN 4607182418800017408)).toInt64 = se_l (-52) from by decide]
    conv => lhs; rw [se_i_self k]
    rw [se_il hk1 hk2, se_l_add, show -52 + k.toInt = k.toInt - 52 by omega]
  rw [e3] at e2
  have hs0 : s = 0 := by
    have := (Prod.mk.inj e2).1
    rcases se_s2 hs with rfl | rfl
    · rfl
    · exact absurd this (by decide)
  refine ⟨Z, hZ, by rw [e1, hs0, Nat.zero_mul, Nat.zero_add], ?_⟩
  rw [← (Prod.mk.inj e2).2]
  conv => lhs; rw [se_i_self k]
  rw [se_il hk1 hk2, show (1 : Int64) = lN 1 from rfl, se_near9 (M := 1) (d := 52) (by omega) (by omega) (by omega) (by omega) (by omega), se_near9 (M := 2 ^ 52) (d := 0) (by omega) (by omega) (by omega) (by omega) (by omega)]
  rw [show (1 : Nat) * 2 ^ 52 = 2 ^ 52 * 2 ^ 0 from rfl, show k.toInt - 52 - ((0 : Nat) : Int) = k.toInt - ((52 : Nat) : Int) by omega]
theorem sj_power (a k b : Int32) (hb : b = 0 ∨ b = 1) (u : ky_BS) (nn : Int64) (w : ky_MV) (h : ky_SI u w) : sj (fn_X6_power a k b u) u nn (fn_X9_power a k b w) := by
  unfold fn_X6_power fn_X9_power
  rcases zq_cell a with ⟨ha, k1, k2⟩ | ⟨k1, k2⟩
  · rw [k1, k2, zq_b, if_pos zq_j.1]
    rcases zq_within k (-1100) 1100 with ⟨hk, hk2, k3, k4⟩ | ⟨k3, k4⟩
    · rw [k3, k4, zq_b, if_neg (show ¬ (1 : Int32) = 0 from by decide), if_pos (show jrr (jrt 0 2 (jst 0)) = 0 from rfl)]
      obtain ⟨Z, hZ, e1, e2⟩ := se_pwr k
      rw [e1, e2]
      exact sj_give h rfl (se_withSide hZ hb)
    · rw [k3, k4, zq_e, if_pos (show (0 : Int32) = 0 from rfl), if_neg (show ¬ jrr (jrt 1 2 (jst 0)) = 0 from by decide)]
      exact sj_ia h rfl
  · rw [k1, k2, zq_e, if_neg zq_j.2]
    exact sj_io h rfl
theorem se_samples : ∀ k : Fin 12, fn_X2_nearestTo (kf_SF k.val) (kf_SP k.val) = fn_X9_sampled (nI k.val) ∧ (fn_X9_sampled (nI k.val)).toBitVec.toNat ≤ se_E := by decide +kernel
theorem se_sample {k : Int32} (h0 : (0 : Int32) ≤ k) (h1 : k ≤ (11 : Int32)) : ∃ Z, Z ≤ se_E ∧ fn_X2_nearestTo (kf_SF k.toNatClampNeg) (kf_SP k.toNatClampNeg) = lN Z ∧ fn_X9_sampled k = lN Z := by
  obtain ⟨j, hj, rfl⟩ := nI_of2 (x := k) (M := 11) (n := 11) rfl (by rw [Int32.lt_iff_toInt_lt]; rw [Int32.le_iff_toInt_le] at h0; omega) h1
  obtain ⟨e1, e2⟩ := se_samples ⟨j, by omega⟩
  rw [nI_clamp (by omega), e1]
  have e3 : fn_X9_sampled (nI j) = lN (fn_X9_sampled (nI j)).toBitVec.toNat := se_eq (by rw [lN_nat (fn_X9_sampled (nI j)).toBitVec.isLt])
  exact ⟨_, e2, e3, e3⟩
theorem sj_sample (a k b : Int32) (hb : b = 0 ∨ b = 1) (u : ky_BS) (nn : Int64) (w : ky_MV) (h : ky_SI u w) : sj (fn_X6_sample a k b u) u nn (fn_X9_sample a k b w) := by
  unfold fn_X6_sample fn_X9_sample
  rcases zq_cell a with ⟨ha, k1, k2⟩ | ⟨k1, k2⟩
  · rw [k1, k2, zq_b, if_pos zq_j.1, show ((12 : Int32)) - ((1 : Int32)) = 11 from rfl]
    rcases zq_within k 0 11 with ⟨hk, hk2, k3, k4⟩ | ⟨k3, k4⟩
    · rw [k3, k4, zq_b, if_neg (show ¬ (1 : Int32) = 0 from by decide), if_pos (show jrr (jrt 0 2 (jst 0)) = 0 from rfl)]
      obtain ⟨Z, hZ, e1, e2⟩ := se_sample hk hk2
      rw [e1, e2]
      exact sj_give h rfl (se_withSide hZ hb)
    · rw [k3, k4, zq_e, if_pos (show (0 : Int32) = 0 from rfl), if_neg (show ¬ jrr (jrt 1 2 (jst 0)) = 0 from by decide)]
      exact sj_ia h rfl
  · rw [k1, k2, zq_e, if_neg zq_j.2]
    exact sj_io h rfl
theorem sj_bits (a k b : Int32) (u : ky_BS) (nn : Int64) (w : ky_MV) (h : ky_SI u w) : sj (fn_X6_bits a k b u) u nn (fn_X9_bits a k b w) := by
  have hT := se_Tlt k b
  unfold fn_X6_bits fn_X9_bits fn_X0_isNumber
  rcases zq_cell a with ⟨ha, k1, k2⟩ | ⟨k1, k2⟩
  · rw [k1, k2, zq_b, if_pos zq_j.1, se_V6, se_V9, se_size hT]
    have hc := se_nle (a := se_T k b % 2 ^ 63) (b := se_E) (by omega) (by decide)
    have hg := se_ngt (a := se_T k b % 2 ^ 63) (b := se_E) (by omega) (by decide)
    rw [show (9218868437227405312 : Int64) = lN se_E from rfl]
    by_cases c : se_T k b % 2 ^ 63 ≤ se_E
    · rw [if_neg (mt hg.mp (by omega)), if_neg (show ¬ (1 : Int32) = 0 from by decide), if_pos (hc.mpr c)]
      by_cases d : (0 : Int32) ≤ k
      · rw [if_pos d]
        refine sj_give h rfl ⟨0, se_T k b % 2 ^ 63, by omega, c, ?_, rfl⟩
        rw [Int32.le_iff_toInt_le, show (0 : Int32).toInt = 0 from rfl] at d
        have e := BitVec.toInt_eq_toNat_cond k.toBitVec
        rw [show k.toBitVec.toInt = k.toInt from rfl] at e
        have hb := b.toBitVec.isLt
        refine congrArg lN ?_
        unfold se_T at hT ⊢
        split at e <;> omega
      · rw [if_neg d]
        refine sj_give h rfl ⟨1, se_T k b % 2 ^ 63, by omega, c, ?_, rfl⟩
        rw [Int32.le_iff_toInt_le, show (0 : Int32).toInt = 0 from rfl] at d
        have e := BitVec.toInt_eq_toNat_cond k.toBitVec
        rw [show k.toBitVec.toInt = k.toInt from rfl] at e
        have hb := b.toBitVec.isLt
        refine congrArg lN ?_
        unfold se_T at hT ⊢
        split at e <;> omega
    · rw [if_pos (hg.mpr (by omega)), if_pos (show (0 : Int32) = 0 from rfl), if_neg (mt hc.mp c)]
      refine ⟨⟨h.1, h.2.1, ?_, h.2.2.2⟩, rfl, fun _ => rfl⟩
      show u.2.2.1 + 1 = w.2.2.1 + 1
      rw [h.2.2.1]
  · rw [k1, k2, zq_e, if_neg zq_j.2]
    exact sj_io h rfl
theorem sj_copy (a b : Int32) (u : ky_BS) (nn : Int64) (w : ky_MV) (h : ky_SI u w) : sj (fn_X6_copy a b u) u nn (fn_X9_copy a b w) := by
  unfold fn_X6_copy fn_X9_copy
  rcases zq_both a b with ⟨ha, hb, k1, k2⟩ | ⟨k1, k2⟩
  · rw [k1, k2, zq_b, if_pos zq_j.1]
    exact sj_give h rfl (h.cell ha)
  · rw [k1, k2, zq_e, if_neg zq_j.2]
    exact sj_io h rfl
theorem sj_floor (a b : Int32) (u : ky_BS) (nn : Int64) (w : ky_MV) (h : ky_SI u w) : sj (fn_X6_floor a b u) u nn (fn_X9_floor a b w) := by
  unfold fn_X6_floor fn_X9_floor fn_X9_take
  rcases zq_both a b with ⟨ha, hb, k1, k2⟩ | ⟨k1, k2⟩
  · rw [k1, k2, zq_b, if_pos zq_j.1]
    exact sj_give h rfl (h.cell ha).floor
  · rw [k1, k2, zq_e, if_neg zq_j.2]
    exact sj_io h rfl
theorem sj_ceil (a b : Int32) (u : ky_BS) (nn : Int64) (w : ky_MV) (h : ky_SI u w) : sj (fn_X6_ceil a b u) u nn (fn_X9_ceil a b w) := by
  unfold fn_X6_ceil fn_X9_ceil fn_X9_take
  rcases zq_both a b with ⟨ha, hb, k1, k2⟩ | ⟨k1, k2⟩
  · rw [k1, k2, zq_b, if_pos zq_j.1]
    exact sj_give h rfl (h.cell ha).ceil
  · rw [k1, k2, zq_e, if_neg zq_j.2]
    exact sj_io h rfl
theorem sj_rint (a b : Int32) (u : ky_BS) (nn : Int64) (w : ky_MV) (h : ky_SI u w) : sj (fn_X6_rint a b u) u nn (fn_X9_rint a b w) := by
  unfold fn_X6_rint fn_X9_rint fn_X9_take
  rcases zq_both a b with ⟨ha, hb, k1, k2⟩ | ⟨k1, k2⟩
  · rw [k1, k2, zq_b, if_pos zq_j.1]
    exact sj_give h rfl (h.cell ha).rint
  · rw [k1, k2, zq_e, if_neg zq_j.2]
    exact sj_io h rfl
theorem sj_size (a b : Int32) (u : ky_BS) (nn : Int64) (w : ky_MV) (h : ky_SI u w) : sj (fn_X6_size a b u) u nn (fn_X9_size a b w) := by
  unfold fn_X6_size fn_X9_size
  rcases zq_both a b with ⟨ha, hb, k1, k2⟩ | ⟨k1, k2⟩
  · rw [k1, k2, zq_b, if_pos zq_j.1]
    exact sj_give h rfl (h.cell ha).size
  · rw [k1, k2, zq_e, if_neg zq_j.2]
    exact sj_io h rfl
theorem sj_turn (a b : Int32) (u : ky_BS) (nn : Int64) (w : ky_MV) (h : ky_SI u w) : sj (fn_X6_turn a b u) u nn (fn_X9_turn a b w) := by
  unfold fn_X6_turn fn_X9_turn
  rcases zq_both a b with ⟨ha, hb, k1, k2⟩ | ⟨k1, k2⟩
  · rw [k1, k2, zq_b, if_pos zq_j.1]
    exact sj_give h rfl (h.cell ha).turn
  · rw [k1, k2, zq_e, if_neg zq_j.2]
    exact sj_io h rfl
theorem sj_sign (a b : Int32) (u : ky_BS) (nn : Int64) (w : ky_MV) (h : ky_SI u w) : sj (fn_X6_sign a b u) u nn (fn_X9_sign a b w) := by
  unfold fn_X6_sign fn_X9_sign
  rcases zq_both a b with ⟨ha, hb, k1, k2⟩ | ⟨k1, k2⟩
  · rw [k1, k2, zq_b, if_pos zq_j.1]
    exact sj_give h rfl (h.cell ha).sign
  · rw [k1, k2, zq_e, if_neg zq_j.2]
    exact sj_io h rfl
theorem sj_up (a b : Int32) (u : ky_BS) (nn : Int64) (w : ky_MV) (h : ky_SI u w) : sj (fn_X6_up a b u) u nn (fn_X9_up a b w) := by
  unfold fn_X6_up fn_X9_up
  rcases zq_both a b with ⟨ha, hb, k1, k2⟩ | ⟨k1, k2⟩
  · rw [k1, k2, zq_b, if_pos zq_j.1]
    exact sj_give h rfl (h.cell ha).up
  · rw [k1, k2, zq_e, if_neg zq_j.2]
    exact sj_io h rfl
theorem sj_down (a b : Int32) (u : ky_BS) (nn : Int64) (w : ky_MV) (h : ky_SI u w) : sj (fn_X6_down a b u) u nn (fn_X9_down a b w) := by
  unfold fn_X6_down fn_X9_down
  rcases zq_both a b with ⟨ha, hb, k1, k2⟩ | ⟨k1, k2⟩
  · rw [k1, k2, zq_b, if_pos zq_j.1]
    exact sj_give h rfl (h.cell ha).next1
  · rw [k1, k2, zq_e, if_neg zq_j.2]
    exact sj_io h rfl
theorem sj_step (a b : Int32) (u : ky_BS) (nn : Int64) (w : ky_MV) (h : ky_SI u w) : sj (fn_X6_step a b u) u nn (fn_X9_step a b w) := by
  unfold fn_X6_step fn_X9_step
  rcases zq_both a b with ⟨ha, hb, k1, k2⟩ | ⟨k1, k2⟩
  · rw [k1, k2, zq_b, if_pos zq_j.1]
    exact sj_give h rfl (h.cell ha).step
  · rw [k1, k2, zq_e, if_neg zq_j.2]
    exact sj_io h rfl
theorem sj_unit (a b : Int32) (u : ky_BS) (nn : Int64) (w : ky_MV) (h : ky_SI u w) : sj (fn_X6_unit a b u) u nn (fn_X9_unit a b w) := by
  unfold fn_X6_unit fn_X9_unit
  rcases zq_both a b with ⟨ha, hb, k1, k2⟩ | ⟨k1, k2⟩
  · rw [k1, k2, zq_b, if_pos zq_j.1]
    rw [se_expV (h.cell ha)]
    exact sj_give h rfl ((h.cell ha).times _)
  · rw [k1, k2, zq_e, if_neg zq_j.2]
    exact sj_io h rfl
theorem sj_swap (a b : Int32) (u : ky_BS) (nn : Int64) (w : ky_MV) (h : ky_SI u w) : sj (fn_X6_swap a b u) u nn (fn_X9_swap a b w) := by
  unfold fn_X6_swap fn_X9_swap
  rcases zq_both a b with ⟨ha, hb, k1, k2⟩ | ⟨k1, k2⟩
  · rw [k1, k2, zq_b, if_pos zq_j.1]
    have hA := h.cell ha
    have hB := h.cell hb
    refine ⟨si_put (si_put h hB (t := 0)) hA, rfl, fun _ => ?_⟩
    show (fn_X0_kindIn (u.1 b.toNatClampNeg)).toInt64 = (fn_X8_kind (ky_vu (ky_vu w.2.2.2.2 a.toNatClampNeg (w.2.2.2.2 b.toNatClampNeg)) b.toNatClampNeg (w.2.2.2.2 a.toNatClampNeg) a.toNatClampNeg)).toInt64
    rw [se_kindR hB]
    unfold ky_vu
    by_cases e : a.toNatClampNeg = b.toNatClampNeg
    · rw [if_pos e, e]
    · rw [if_neg e, if_pos rfl]
  · rw [k1, k2, zq_e, if_neg zq_j.2]
    exact sj_io h rfl
theorem sj_times (a k b : Int32) (u : ky_BS) (nn : Int64) (w : ky_MV) (h : ky_SI u w) : sj (fn_X6_times a k b u) u nn (fn_X9_times a k b w) := by
  unfold fn_X6_times fn_X9_times
  rcases zq_both a b with ⟨ha, hb, k1, k2⟩ | ⟨k1, k2⟩
  · rw [k1, k2, zq_b, if_pos zq_j.1]
    exact sj_give h rfl ((h.cell ha).times k)
  · rw [k1, k2, zq_e, if_neg zq_j.2]
    exact sj_io h rfl
theorem sj_side (a b c : Int32) (u : ky_BS) (nn : Int64) (w : ky_MV) (h : ky_SI u w) : sj (fn_X6_side a b c u) u nn (fn_X9_side a b c w) := by
  unfold fn_X6_side fn_X9_side
  rcases zq_both a b with ⟨ha, hb, k1, k2⟩ | ⟨k1, k2⟩
  · rw [k1, k2, zq_b, if_pos (show (0 : Int32) = 0 from rfl)]
    rcases zq_cell c with ⟨hc, k3, k4⟩ | ⟨k3, k4⟩
    · rw [k3, k4, zq_b, if_pos (show (0 : Int32) = 0 from rfl)]
      exact sj_give h rfl ((h.cell ha).side (h.cell hb))
    · rw [k3, k4, zq_e, if_neg (show ¬ (1 : Int32) = 0 from by decide)]
      exact sj_io h rfl
  · rw [k1, k2, zq_e, if_neg (show ¬ (1 : Int32) = 0 from by decide)]
    exact sj_io h rfl
theorem se_last1 (a b : Int32) (w : ky_MV) : fn_X9_last a b 1 w = (if lg_cmp (fn_X8_place ((w.2.2.2.2) (a).toNatClampNeg)) (fn_X8_place ((w.2.2.2.2) (b).toNatClampNeg)) ≤ (0 : Int32) then (w.2.2.2.2) (b).toNatClampNeg else (w.2.2.2.2) (a).toNatClampNeg) := by
  unfold fn_X9_last
  rw [if_neg (show ¬ (0 : Int32) = 1 from by decide), if_pos (show (1 : Int32) = 1 from rfl)]
theorem se_last0 (a b : Int32) (w : ky_MV) : fn_X9_last a b 0 w = (if lg_cmp (fn_X8_place ((w.2.2.2.2) (a).toNatClampNeg)) (fn_X8_place ((w.2.2.2.2) (b).toNatClampNeg)) ≤ (0 : Int32) then (w.2.2.2.2) (a).toNatClampNeg else (w.2.2.2.2) (b).toNatClampNeg) := by
  unfold fn_X9_last
  rw [if_pos (show (0 : Int32) = 0 from rfl), if_neg (show ¬ (1 : Int32) = 0 from by decide)]
theorem sj_max (a b c : Int32) (u : ky_BS) (nn : Int64) (w : ky_MV) (h : ky_SI u w) : sj (fn_X6_max a b c u) u nn (fn_X9_max a b c w) := by
  unfold fn_X6_max fn_X9_max
  rcases zq_both a b with ⟨ha, hb, k1, k2⟩ | ⟨k1, k2⟩
  · rw [k1, k2, zq_b, if_pos (show (0 : Int32) = 0 from rfl)]
    rcases zq_cell c with ⟨hc, k3, k4⟩ | ⟨k3, k4⟩
    · rw [k3, k4, zq_b, if_pos (show (0 : Int32) = 0 from rfl)]
      rw [se_last1]
      exact sj_give h rfl (se_lastR (h.cell ha) (h.cell hb))
    · rw [k3, k4, zq_e, if_neg (show ¬ (1 : Int32) = 0 from by decide)]
      exact sj_io h rfl
  · rw [k1, k2, zq_e, if_neg (show ¬ (1 : Int32) = 0 from by decide)]
    exact sj_io h rfl
theorem sj_min (a b c : Int32) (u : ky_BS) (nn : Int64) (w : ky_MV) (h : ky_SI u w) : sj (fn_X6_min a b c u) u nn (fn_X9_min a b c w) := by
  unfold fn_X6_min fn_X9_min
  rcases zq_both a b with ⟨ha, hb, k1, k2⟩ | ⟨k1, k2⟩
  · rw [k1, k2, zq_b, if_pos (show (0 : Int32) = 0 from rfl)]
    rcases zq_cell c with ⟨hc, k3, k4⟩ | ⟨k3, k4⟩
    · rw [k3, k4, zq_b, if_pos (show (0 : Int32) = 0 from rfl)]
      rw [se_last0]
      exact sj_give h rfl (se_firstR (h.cell ha) (h.cell hb))
    · rw [k3, k4, zq_e, if_neg (show ¬ (1 : Int32) = 0 from by decide)]
      exact sj_io h rfl
  · rw [k1, k2, zq_e, if_neg (show ¬ (1 : Int32) = 0 from by decide)]
    exact sj_io h rfl
theorem sj_kind (a : Int32) (u : ky_BS) (nn : Int64) (w : ky_MV) (h : ky_SI u w) : sj (fn_X6_kind a u) u nn (fn_X9_kind a w) := by
  unfold fn_X6_kind fn_X9_kind
  rcases zq_cell a with ⟨ha, k1, k2⟩ | ⟨k1, k2⟩
  · rw [k1, k2, zq_b, if_pos zq_j.1]
    exact sj_val h rfl (se_kindR (h.cell ha))
  · rw [k1, k2, zq_e, if_neg zq_j.2]
    exact sj_io h rfl
theorem sj_exponent (a : Int32) (u : ky_BS) (nn : Int64) (w : ky_MV) (h : ky_SI u w) : sj (fn_X6_exponent a u) u nn (fn_X9_exponent a w) := by
  unfold fn_X6_exponent fn_X9_exponent
  rcases zq_cell a with ⟨ha, k1, k2⟩ | ⟨k1, k2⟩
  · rw [k1, k2, zq_b, if_pos zq_j.1]
    exact sj_val h rfl (se_expV (h.cell ha))
  · rw [k1, k2, zq_e, if_neg zq_j.2]
    exact sj_io h rfl
theorem sj_signed (a : Int32) (u : ky_BS) (nn : Int64) (w : ky_MV) (h : ky_SI u w) : sj (fn_X6_signed a u) u nn (fn_X9_signed a w) := by
  unfold fn_X6_signed fn_X9_signed
  rcases zq_cell a with ⟨ha, k1, k2⟩ | ⟨k1, k2⟩
  · rw [k1, k2, zq_b, if_pos zq_j.1]
    exact sj_val h rfl (se_signR (h.cell ha))
  · rw [k1, k2, zq_e, if_neg zq_j.2]
    exact sj_io h rfl
theorem sj_shortened (a : Int32) (u : ky_BS) (nn : Int64) (w : ky_MV) (h : ky_SI u w) : sj (fn_X6_shortened a u) u nn (fn_X9_shortened a w) := by
  unfold fn_X6_shortened fn_X9_shortened
  rcases zq_cell a with ⟨ha, k1, k2⟩ | ⟨k1, k2⟩
  · rw [k1, k2, zq_b, if_pos zq_j.1]
    exact sj_val h rfl (se_shortR (h.cell ha))
  · rw [k1, k2, zq_e, if_neg zq_j.2]
    exact sj_io h rfl
theorem sj_digits (a k : Int32) (u : ky_BS) (nn : Int64) (w : ky_MV) (h : ky_SI u w) : sj (fn_X6_digits a k u) u nn (fn_X9_digits a k w) := by
  unfold fn_X6_digits fn_X9_digits
  rcases zq_cell a with ⟨ha, k1, k2⟩ | ⟨k1, k2⟩
  · rw [k1, k2, zq_b, if_pos zq_j.1]
    rcases zq_within k 0 3 with ⟨hk, hk2, k3, k4⟩ | ⟨k3, k4⟩
    · rw [k3, k4, zq_b, if_neg (show ¬ (1 : Int32) = 0 from by decide), if_pos (show jrr (jrt 0 2 (jst 0)) = 0 from rfl)]
      have e := se_digR (h.cell ha) k hk hk2
      have e2 : fn_X9_digit a k (jrt 0 2 (jst 0), w.2.1, w.2.2.1, w.2.2.2.1, w.2.2.2.2) = (fn_X0_digitsIn (u.1 a.toNatClampNeg) k, (jrt 0 2 (jst 0), w.2.1, w.2.2.1, w.2.2.2.1, w.2.2.2.2)) := by
        rw [e]
        unfold fn_X9_digit
        by_cases c1 : (2 : Int32) ≤ k
        · rw [if_pos c1, if_pos c1]
          by_cases c2 : k = (2 : Int32)
          · rw [if_pos c2, if_pos c2]
          · rw [if_neg c2, if_neg c2]
        · rw [if_neg c1, if_neg c1]
          by_cases c2 : k = (0 : Int32)
          · rw [if_pos c2, if_pos c2]
          · rw [if_neg c2, if_neg c2]
      rw [e2]
      generalize fn_X0_digitsIn (u.1 a.toNatClampNeg) k = X9
      exact sj_val h rfl rfl
    · rw [k3, k4, zq_e, if_pos (show (0 : Int32) = 0 from rfl), if_neg (show ¬ jrr (jrt 1 2 (jst 0)) = 0 from by decide)]
      exact sj_ia h rfl
  · rw [k1, k2, zq_e, if_neg zq_j.2]
    exact sj_io h rfl
theorem se_asr0 (x : Int64) : jlshr x 0 = x := by
  unfold jlshr
  refine Int64.toBitVec_inj.mp ?_
  rw [Int64.toBitVec_shiftRight, show ((0 : Int32).toInt64 &&& 63).toBitVec.smod 64 = 0#64 from by decide, BitVec.sshiftRight_eq', show (0#64).toNat = 0 from rfl, BitVec.sshiftRight_zero]
theorem sj_round (a k : Int32) (u : ky_BS) (nn : Int64) (w : ky_MV) (h : ky_SI u w) : sj (fn_X6_round a k u) u nn (fn_X9_round a k w) := by
  unfold fn_X6_round fn_X9_round
  rcases zq_cell a with ⟨ha, k1, k2⟩ | ⟨k1, k2⟩
  · rw [k1, k2, zq_b, if_pos zq_j.1]
    have e2 : fn_X9_part a k (jst 0, w.2.1, w.2.2.1, w.2.2.2.1, w.2.2.2.2) = (fn_X6_halfOf (fn_X5_roundFrom (u.1 a.toNatClampNeg)) k, (jst 0, w.2.1, w.2.2.1, w.2.2.2.1, w.2.2.2.2)) := by
      rw [se_roundR (h.cell ha)]
      unfold fn_X9_part fn_X6_halfOf
      by_cases c : k = (0 : Int32)
      · rw [if_pos c, if_pos c, se_asr0]
      · rw [if_neg c, if_neg c]
    rw [e2]
    generalize fn_X6_halfOf (fn_X5_roundFrom (u.1 a.toNatClampNeg)) k = X9
    exact sj_val h rfl rfl
  · rw [k1, k2, zq_e, if_neg zq_j.2]
    exact sj_io h rfl
theorem sj_areLike (a b : Int32) (u : ky_BS) (nn : Int64) (w : ky_MV) (h : ky_SI u w) : sjb (fn_X6_areLike a b u) u nn (fn_X9_areLike a b w) := by
  unfold fn_X6_areLike fn_X9_areLike
  rcases zq_both a b with ⟨ha, hb, k1, k2⟩ | ⟨k1, k2⟩
  · rw [k1, k2, zq_b, if_pos zq_j.1]
    rw [se_rungR (h.cell ha), se_rungR (h.cell hb)]
    split
    · exact sjb_val h rfl rfl
    · exact sjb_val h rfl rfl
  · rw [k1, k2, zq_e, if_neg zq_j.2]
    exact sjb_io h rfl
theorem sj_isBelow (a b : Int32) (u : ky_BS) (nn : Int64) (w : ky_MV) (h : ky_SI u w) : sjb (fn_X6_isBelow a b u) u nn (fn_X9_isBelow a b w) := by
  unfold fn_X6_isBelow fn_X9_isBelow
  rcases zq_both a b with ⟨ha, hb, k1, k2⟩ | ⟨k1, k2⟩
  · rw [k1, k2, zq_b, if_pos zq_j.1]
    rw [se_rungR (h.cell ha), se_rungR (h.cell hb)]
    split
    · exact sjb_val h rfl rfl
    · exact sjb_val h rfl rfl
  · rw [k1, k2, zq_e, if_neg zq_j.2]
    exact sjb_io h rfl
theorem sj_areSame (a b : Int32) (u : ky_BS) (nn : Int64) (w : ky_MV) (h : ky_SI u w) : sjb (fn_X6_areSame a b u) u nn (fn_X9_areSame a b w) := by
  unfold fn_X6_areSame fn_X9_areSame
  rcases zq_both a b with ⟨ha, hb, k1, k2⟩ | ⟨k1, k2⟩
  · rw [k1, k2, zq_b, if_pos zq_j.1]
    have e := se_isSameR (h.cell ha) (h.cell hb)
    by_cases c : lg_cmp ((u.1) (a).toNatClampNeg) ((u.1) (b).toNatClampNeg) = (0 : Int32)
    · rw [if_pos c] at e
      rw [if_pos c, if_neg (by rw [← e]; decide)]
      exact sjb_val h rfl rfl
    · rw [if_neg c] at e
      rw [if_neg c, if_pos e.symm]
      exact sjb_val h rfl rfl
  · rw [k1, k2, zq_e, if_neg zq_j.2]
    exact sjb_io h rfl
theorem sj_isNext (a b : Int32) (u : ky_BS) (nn : Int64) (w : ky_MV) (h : ky_SI u w) : sjb (fn_X6_isNext a b u) u nn (fn_X9_isNext a b w) := by
  unfold fn_X6_isNext fn_X9_isNext
  rcases zq_both a b with ⟨ha, hb, k1, k2⟩ | ⟨k1, k2⟩
  · rw [k1, k2, zq_b, if_pos zq_j.1]
    have e := se_isSameR (h.cell ha).up (h.cell hb)
    by_cases c : lg_cmp (fn_X4_upFrom ((u.1) (a).toNatClampNeg)) ((u.1) (b).toNatClampNeg) = (0 : Int32)
    · rw [if_pos c] at e
      rw [if_pos c, if_neg (by rw [← e]; decide)]
      exact sjb_val h rfl rfl
    · rw [if_neg c] at e
      rw [if_neg c, if_pos e.symm]
      exact sjb_val h rfl rfl
  · rw [k1, k2, zq_e, if_neg zq_j.2]
    exact sjb_io h rfl
theorem sj_isWhole (a : Int32) (u : ky_BS) (nn : Int64) (w : ky_MV) (h : ky_SI u w) : sjb (fn_X6_isWhole a u) u nn (fn_X9_isWhole a w) := by
  unfold fn_X6_isWhole fn_X9_isWhole
  rcases zq_cell a with ⟨ha, k1, k2⟩ | ⟨k1, k2⟩
  · rw [k1, k2, zq_b, if_pos zq_j.1, se_wholeR (h.cell ha)]
    have e : fn_X8_isWhole ((w.2.2.2.2) (a).toNatClampNeg) = 0 ∨ fn_X8_isWhole ((w.2.2.2.2) (a).toNatClampNeg) = 1 := by
      unfold fn_X8_isWhole
      repeat' split
      all_goals first | exact Or.inl rfl | exact Or.inr rfl
    rcases e with e | e
    · rw [e, if_pos rfl]
      exact sjb_val h rfl rfl
    · rw [e, if_neg (by decide)]
      exact sjb_val h rfl rfl
  · rw [k1, k2, zq_e, if_neg zq_j.2]
    exact sjb_io h rfl
theorem sj_compare (a b : Int32) (u : ky_BS) (nn : Int64) (w : ky_MV) (h : ky_SI u w) : sj (fn_X6_compare a b u) u nn (fn_X9_compare a b w) := by
  unfold fn_X6_compare fn_X9_compare
  rcases zq_both a b with ⟨ha, hb, k1, k2⟩ | ⟨k1, k2⟩
  · rw [k1, k2, zq_b, if_pos zq_j.1]
    rw [se_orderR (h.cell ha) (h.cell hb)]
    have e2 : fn_X9_comparedNow a b (jst 0, w.2.1, w.2.2.1, w.2.2.2.1, w.2.2.2.2) = (fn_X9_compared (fn_X8_place ((w.2.2.2.2) (a).toNatClampNeg)) (fn_X8_place ((w.2.2.2.2) (b).toNatClampNeg)), (jst 0, w.2.1, w.2.2.1, w.2.2.2.1, w.2.2.2.2)) := by unfold fn_X9_comparedNow; rfl
    rw [e2]
    generalize fn_X9_compared (fn_X8_place ((w.2.2.2.2) (a).toNatClampNeg)) (fn_X8_place ((w.2.2.2.2) (b).toNatClampNeg)) = X9
    exact sj_val h rfl rfl
  · rw [k1, k2, zq_e, if_neg zq_j.2]
    exact sj_io h rfl
theorem sj_apart (a b : Int32) (u : ky_BS) (nn : Int64) (w : ky_MV) (h : ky_SI u w) : sj (fn_X6_apart a b u) u nn (fn_X9_apart a b w) := by
  unfold fn_X6_apart fn_X9_apart
  rcases zq_both a b with ⟨ha, hb, k1, k2⟩ | ⟨k1, k2⟩
  · rw [k1, k2, zq_b, if_pos zq_j.1]
    have e2 : fn_X9_apartNow a b (jst 0, w.2.1, w.2.2.1, w.2.2.2.1, w.2.2.2.2) = (fn_X6_stepsBetween (u.1 a.toNatClampNeg) (u.1 b.toNatClampNeg), (jst 0, w.2.1, w.2.2.1, w.2.2.2.1, w.2.2.2.2)) := by
      rw [se_apartR (h.cell ha) (h.cell hb)]
      unfold fn_X9_apartNow
      by_cases c1 : (lg_cmp (fn_X8_rung ((w.2.2.2.2) (b).toNatClampNeg)) (fn_X8_rung ((w.2.2.2.2) (a).toNatClampNeg))) < (0 : Int32)
      · rw [if_pos c1, if_pos c1]
      · rw [if_neg c1, if_neg c1]
        by_cases c2 : (lg_cmp (fn_X8_rung ((w.2.2.2.2) (b).toNatClampNeg)) ((fn_X8_rung ((w.2.2.2.2) (a).toNatClampNeg)) + ((40 : Int64)))) ≤ (0 : Int32)
        · rw [if_pos c2, if_pos c2]
        · rw [if_neg c2, if_neg c2]
    rw [e2]
    generalize fn_X6_stepsBetween (u.1 a.toNatClampNeg) (u.1 b.toNatClampNeg) = X9
    exact sj_val h rfl rfl
  · rw [k1, k2, zq_e, if_neg zq_j.2]
    exact sj_io h rfl
theorem sj_isBack (a k : Int32) (u : ky_BS) (nn : Int64) (w : ky_MV) (h : ky_SI u w) : sjb (fn_X6_isBack a k u) u nn (fn_X9_isBack a k w) := by
  unfold fn_X6_isBack fn_X9_isBack
  rcases zq_cell a with ⟨ha, k1, k2⟩ | ⟨k1, k2⟩
  · rw [k1, k2, zq_b, if_pos zq_j.1]
    rcases zq_within k (-2200) 2200 with ⟨hk, hk2, k3, k4⟩ | ⟨k3, k4⟩
    · rw [k3, k4, zq_b, if_neg (show ¬ (1 : Int32) = 0 from by decide), if_pos (show jrr (jrt 0 2 (jst 0)) = 0 from rfl)]
      have e := se_isSameR (((h.cell ha).times k).times (-k)) (h.cell ha)
      by_cases c : (lg_cmp (fn_X2_timesPower (fn_X2_timesPower ((u.1) (a).toNatClampNeg) k) (-k)) ((u.1) (a).toNatClampNeg)) = (0 : Int32)
      · rw [if_pos c] at e
        rw [if_pos c, if_neg (by rw [← e]; decide)]
        exact sjb_val h rfl rfl
      · rw [if_neg c] at e
        rw [if_neg c, if_pos e.symm]
        exact sjb_val h rfl rfl
    · rw [k3, k4, zq_e, if_pos (show (0 : Int32) = 0 from rfl), if_neg (show ¬ jrr (jrt 1 2 (jst 0)) = 0 from by decide)]
      exact sjb_ia h rfl
  · rw [k1, k2, zq_e, if_neg zq_j.2]
    exact sjb_io h rfl
/-! walk -/
theorem se_wk : ∀ (k : Nat) (d : Int32) (v : Int32 × Int64), ky_wkit (k + 1) d v = ky_wkit k d (fn_X8_next d v)
  | 0, _, _ => rfl
  | k + 1, d, v => by
    show fn_X8_next d (ky_wkit (k + 1) d v) = fn_X8_next d (ky_wkit k d (fn_X8_next d v))
    rw [se_wk k d v]
theorem se_wUp : ∀ (r n A done : Nat) (V : Int64) (v : Int32 × Int64), A ≤ 40 → done + r = A → se_R V v → se_R (fn_X4_walkFrom_L5 (r + 1 + n) (nI A) V (nI done)) (ky_wkit r 0 v)
  | 0, n, A, done, V, v, hA, hd, h => by
    rw [show 0 + 1 + n = n + 1 by omega]
    unfold fn_X4_walkFrom_L5
    rw [if_pos (nI_le (by omega) (by omega))]
    unfold fn_X4_walkFrom_L25
    rw [if_pos (nI_pos' (by omega))]
    exact h
  | r + 1, n, A, done, V, v, hA, hd, h => by
    rw [show r + 1 + 1 + n = (r + 1 + n) + 1 by omega]
    unfold fn_X4_walkFrom_L5
    rw [if_neg (nI_ge (by omega) (by omega)), nI_1, se_wk]
    exact se_wUp r n A (done + 1) _ _ hA (by omega) h.next0
theorem se_wDn : ∀ (r n A done : Nat) (V : Int64) (v : Int32 × Int64), A ≤ 40 → done + r = A → se_R V v → se_R (fn_X4_walkFrom_L25 (r + 1 + n) (se_i (-(A : Int))) V (se_i (-(done : Int)))) (ky_wkit r 1 v)
  | 0, n, A, done, V, v, hA, hd, h => by
    rw [show 0 + 1 + n = n + 1 by omega]
    unfold fn_X4_walkFrom_L25
    rw [if_pos ((se_i_le (by omega) (by omega) (by omega) (by omega)).mpr (by omega))]
    exact h
  | r + 1, n, A, done, V, v, hA, hd, h => by
    rw [show r + 1 + 1 + n = (r + 1 + n) + 1 by omega]
    unfold fn_X4_walkFrom_L25
    rw [if_neg (mt (se_i_le (by omega) (by omega) (by omega) (by omega)).mp (by omega)), show (-1 : Int32) = se_i (-1) from rfl, se_i_add, se_wk]
    have := se_wDn r n A (done + 1) _ _ hA (by omega) h.next1
    rwa [show -((done + 1 : Nat) : Int) = -(done : Int) + -1 by omega] at this
theorem se_walk {V : Int64} {v : Int32 × Int64} (h : se_R V v) {k : Int32} (h0 : (-40 : Int32) ≤ k) (h1 : k ≤ (40 : Int32)) : se_R (fn_X4_walkFrom V k) (ky_wkit (jiabs k).toInt.toNat (if (0 : Int32) ≤ k then 0 else 1) v) := by
  rw [Int32.le_iff_toInt_le, show (-40 : Int32).toInt = -40 from rfl] at h0
  rw [Int32.le_iff_toInt_le, show (40 : Int32).toInt = 40 from rfl] at h1
  have e0 := se_i_self k
  obtain ⟨q, hq⟩ : ∃ q : Int, q = k.toInt := ⟨_, rfl⟩
  rw [← hq] at e0 h0 h1
  subst e0
  clear hq
  unfold fn_X4_walkFrom jiabs
  rw [show (0 : Int32) = se_i 0 from rfl, se_i_int (by omega) (by omega)]
  have hc := se_i_le (a := 0) (b := q) (by omega) (by omega) (by omega) (by omega)
  by_cases c : 0 ≤ q
  · obtain ⟨A, rfl⟩ : ∃ A : Nat, q = (A : Int) := ⟨q.toNat, by omega⟩
    rw [if_pos (hc.mpr c), if_pos (hc.mpr c), se_i_int (by omega) (by omega), ← se_i_nat, Int.toNat_natCast]
    have := se_wUp A 0 A 0 V v (by omega) (by omega) h
    rw [Nat.add_zero, show nI 0 = se_i 0 from rfl, show (0 : Int32) = se_i 0 from rfl] at this
    exact this
  · obtain ⟨A, rfl⟩ : ∃ A : Nat, q = -(A : Int) := ⟨(-q).toNat, by omega⟩
    rw [if_neg (mt hc.mp c), if_neg (mt hc.mp c), se_i_sub, se_i_int (by omega) (by omega)]
    rw [show (-(A : Int)).toNat + 1 = 0 + 1 by omega]
    unfold fn_X4_walkFrom_L5
    rw [if_pos ((se_i_le (by omega) (by omega) (by omega) (by omega)).mpr (by omega)), se_i_int (by omega) (by omega), show (- -(A : Int)).toNat + 1 = A + 1 + 0 by omega, show (0 - -(A : Int)).toNat = A by omega]
    have := se_wDn A 0 A 0 V v (by omega) (by omega) h
    rw [show se_i (-((0 : Nat) : Int)) = 0 from rfl] at this
    exact this
theorem sj_walk (a k : Int32) (u : ky_BS) (nn : Int64) (w : ky_MV) (h : ky_SI u w) : sj (fn_X6_walk a k u) u nn (fn_X9_walk a k w) := by
  unfold fn_X6_walk fn_X9_walk
  rcases zq_cell a with ⟨ha, k1, k2⟩ | ⟨k1, k2⟩
  · rw [k1, k2, zq_b, if_pos zq_j.1]
    rcases zq_within k (-40) 40 with ⟨hk, hk2, k3, k4⟩ | ⟨k3, k4⟩
    · rw [k3, k4, zq_b, if_neg (show ¬ (1 : Int32) = 0 from by decide), if_pos (show jrr (jrt 0 2 (jst 0)) = 0 from rfl)]
      have hR := se_walk (h.cell ha) hk hk2
      generalize fn_X4_walkFrom (u.1 a.toNatClampNeg) k = V9 at hR ⊢
      generalize ky_wkit (jiabs k).toInt.toNat (if (0 : Int32) ≤ k then 0 else 1) (w.2.2.2.2 a.toNatClampNeg) = v9 at hR ⊢
      exact sj_give h rfl hR
    · rw [k3, k4, zq_e, if_pos (show (0 : Int32) = 0 from rfl), if_neg (show ¬ jrr (jrt 1 2 (jst 0)) = 0 from by decide)]
      exact sj_ia h rfl
  · rw [k1, k2, zq_e, if_neg zq_j.2]
    exact sj_io h rfl
/-! place, house -/
theorem st_placeOf_L5 : ∀ (n : Nat) (u : ky_BS) (a : Int64) (x y : Int32), (fn_X6_placeOf_L5 n u a x y).2 = u
  | 0, _, _, _, _ => rfl
  | n + 1, u, a, x, y => by
    unfold fn_X6_placeOf_L5
    split
    · rfl
    · split
      · exact st_placeOf_L5 n u a _ _
      · exact st_placeOf_L5 n u a _ _
theorem st_placeOf (a : Int64) (u : ky_BS) : (fn_X6_placeOf a u).2 = u := st_placeOf_L5 _ _ _ _ _
theorem st_ones_L4 : ∀ (n : Nat) (u : ky_BS) (x y : Int32), (fn_X6_countWholeOnes_L4 n u x y).2 = u
  | 0, _, _, _ => rfl
  | n + 1, u, x, y => by
    unfold fn_X6_countWholeOnes_L4
    split
    · rfl
    · split
      · exact st_ones_L4 n u _ _
      · exact st_ones_L4 n u _ _
theorem st_countOf (a : Int32) (u : ky_BS) : (fn_X6_countOf a u).2 = u := by
  unfold fn_X6_countOf
  split
  · rfl
  · split
    · rfl
    · split
      · rfl
      · exact st_ones_L4 _ _ _ _
theorem st_placeNow_L14 (a : Int32) (w : ky_MV) : ∀ (n : Nat) (x y : Int32), (fn_X9_placeNow_L14 a w n x y).2 = w
  | 0, _, _ => rfl
  | n + 1, x, y => by
    unfold fn_X9_placeNow_L14
    split
    · rfl
    · split
      · exact st_placeNow_L14 a w n _ _
      · exact st_placeNow_L14 a w n _ _
theorem st_houseNow_L14 (a : Int32) (w : ky_MV) : ∀ (n : Nat) (x y : Int32), (fn_X9_houseNow_L14 a w n x y).2 = w
  | 0, _, _ => rfl
  | n + 1, x, y => by
    unfold fn_X9_houseNow_L14
    split
    · rfl
    · exact st_houseNow_L14 a w n _ _
theorem se_placeL {u : ky_BS} {w : ky_MV} (h : ky_SI u w) {a : Int32} (ha : sj_in a) : ∀ (n i : Nat) (x : Int32), i ≤ 6 → (fn_X6_placeOf_L5 n u ((u.1) (a).toNatClampNeg) x (nI i)).1 = (fn_X9_placeNow_L14 a w n x (nI i)).1
  | 0, _, _, _ => rfl
  | n + 1, i, x, hi => by
    unfold fn_X6_placeOf_L5 fn_X9_placeNow_L14
    by_cases c : i = 6
    · rw [if_pos (show (6 : Int32) ≤ nI i from nI_le (a := 6) (by omega) (by omega)), if_pos (show (6 : Int32) ≤ nI i from nI_le (a := 6) (by omega) (by omega))]
    · rw [if_neg (show ¬ (6 : Int32) ≤ nI i from nI_ge (b := 6) (by omega) (by omega)), if_neg (show ¬ (6 : Int32) ≤ nI i from nI_ge (b := 6) (by omega) (by omega)), nI_1, nI_clamp (by omega), se_rankR (h.1 i (by omega)), se_rankR (h.cell ha)]
      by_cases d : (0 : Int32) ≤ (lg_cmp (fn_X8_place ((w.2.2.2.2) i)) (fn_X8_place ((w.2.2.2.2) (a).toNatClampNeg)))
      · rw [if_pos d, if_pos d, show x + fn_X9_one 0 = x from Int32.add_zero x]
        exact se_placeL h ha n (i + 1) x (by omega)
      · rw [if_neg d, if_neg d, show fn_X9_one 1 = 1 from rfl]
        exact se_placeL h ha n (i + 1) (x + 1) (by omega)
theorem sj_place (a : Int32) (u : ky_BS) (nn : Int64) (w : ky_MV) (h : ky_SI u w) : sj (fn_X6_place a u) u nn (fn_X9_place a w) := by
  unfold fn_X6_place fn_X9_place
  rcases zq_cell a with ⟨ha, k1, k2⟩ | ⟨k1, k2⟩
  · rw [k1, k2, zq_b, if_pos zq_j.1, st_placeOf]
    have e : (fn_X9_placeNow a (jst 0, w.2.1, w.2.2.1, w.2.2.2.1, w.2.2.2.2)).2 = (jst 0, w.2.1, w.2.2.1, w.2.2.2.1, w.2.2.2.2) := st_placeNow_L14 _ _ _ _ _
    rw [e]
    exact sj_val h rfl (se_placeL (w := (jst 0, w.2.1, w.2.2.1, w.2.2.2.1, w.2.2.2.2)) h ha 7 0 0 (by omega))
  · rw [k1, k2, zq_e, if_neg zq_j.2]
    exact sj_io h rfl
theorem se_one {x : Int32} (h : x = 0 ∨ x = 1) : fn_X9_one x = x := by
  rcases h with rfl | rfl <;> rfl
theorem se_isW (v : Int32 × Int64) : fn_X8_isWhole v = 0 ∨ fn_X8_isWhole v = 1 := by
  unfold fn_X8_isWhole
  repeat' split
  all_goals first | exact Or.inl rfl | exact Or.inr rfl
theorem se_houseL {u : ky_BS} {w : ky_MV} (h : ky_SI u w) : ∀ (n i : Nat) (x : Int32), i ≤ 6 → 6 - i < n → (fn_X9_houseNow_L14 3 w n x (nI i)).1 = (fn_X6_countWholeOnes_L4 n u x (nI i)).1
  | 0, _, _, _, hn => by omega
  | n + 1, i, x, hi, hn => by
    unfold fn_X6_countWholeOnes_L4 fn_X9_houseNow_L14
    by_cases c : i = 6
    · rw [if_pos (show (6 : Int32) ≤ nI i from nI_le (a := 6) (by omega) (by omega)), if_pos (show (6 : Int32) ≤ nI i from nI_le (a := 6) (by omega) (by omega))]
      rfl
    · rw [if_neg (show ¬ (6 : Int32) ≤ nI i from nI_ge (b := 6) (by omega) (by omega)), if_neg (show ¬ (6 : Int32) ≤ nI i from nI_ge (b := 6) (by omega) (by omega)), nI_1, nI_clamp (by omega), se_wholeR (h.1 i (by omega)), se_one (se_isW _)]
      rcases se_isW ((w.2.2.2.2) i) with e | e
      · rw [e, if_pos rfl, show x + 0 = x from Int32.add_zero x]
        exact se_houseL h n (i + 1) x (by omega) (by omega)
      · rw [e, if_neg (by decide)]
        exact se_houseL h n (i + 1) (x + 1) (by omega) (by omega)
theorem se_houseK (k : Int32) (w : ky_MV) (q : Int32) (hq : ∀ x, (upd (upd (upd (upd (fun _ => 0) ((0 : Int32)).toNatClampNeg (w.2.1)) ((1 : Int32)).toNatClampNeg (w.2.2.1)) ((2 : Int32)).toNatClampNeg (w.2.2.2.1)) ((3 : Int32)).toNatClampNeg x) (k).toNatClampNeg = q) : ∀ (n i : Nat) (x : Int32), i ≤ 6 → 6 - i < n → (fn_X9_houseNow_L14 k w n x (nI i)).1 = q
  | 0, _, _, _, hn => by omega
  | n + 1, i, x, hi, hn => by
    unfold fn_X9_houseNow_L14
    by_cases c : i = 6
    · rw [if_pos (show (6 : Int32) ≤ nI i from nI_le (a := 6) (by omega) (by omega))]
      exact hq x
    · rw [if_neg (show ¬ (6 : Int32) ≤ nI i from nI_ge (b := 6) (by omega) (by omega)), nI_1]
      exact se_houseK k w q hq n (i + 1) _ (by omega) (by omega)
theorem se_updK (a b c d : Int32) : (upd (upd (upd (upd (fun _ => 0) ((0 : Int32)).toNatClampNeg a) ((1 : Int32)).toNatClampNeg b) ((2 : Int32)).toNatClampNeg c) ((3 : Int32)).toNatClampNeg d) 0 = a ∧ (upd (upd (upd (upd (fun _ => 0) ((0 : Int32)).toNatClampNeg a) ((1 : Int32)).toNatClampNeg b) ((2 : Int32)).toNatClampNeg c) ((3 : Int32)).toNatClampNeg d) 1 = b ∧ (upd (upd (upd (upd (fun _ => 0) ((0 : Int32)).toNatClampNeg a) ((1 : Int32)).toNatClampNeg b) ((2 : Int32)).toNatClampNeg c) ((3 : Int32)).toNatClampNeg d) 2 = c := by
  rw [show ((0 : Int32)).toNatClampNeg = 0 from rfl, show ((1 : Int32)).toNatClampNeg = 1 from rfl, show ((2 : Int32)).toNatClampNeg = 2 from rfl, show ((3 : Int32)).toNatClampNeg = 3 from rfl]
  unfold upd
  exact ⟨rfl, rfl, rfl⟩
theorem sj_house (k : Int32) (u : ky_BS) (nn : Int64) (w : ky_MV) (h : ky_SI u w) : sj1 (fn_X6_house k u) u nn (fn_X9_house k w) := by
  unfold fn_X6_house fn_X9_house
  rcases zq_within k 0 3 with ⟨hk, hk2, k3, k4⟩ | ⟨k3, k4⟩
  · rw [k3, k4, zq_b, if_neg (show ¬ (1 : Int32) = 0 from by decide), if_pos (show jrr (jrt 0 1 (jst 0)) = 0 from rfl), st_countOf]
    obtain ⟨w9, hw9⟩ : ∃ w9 : ky_MV, w9 = (jrt 0 1 (jst 0), w.2.1, w.2.2.1, w.2.2.2.1, w.2.2.2.2) := ⟨_, rfl⟩
    have h9 : ky_SI u w9 := by rw [hw9]; exact h
    have e : (fn_X9_houseNow k w9).2 = w9 := st_houseNow_L14 _ _ _ _ _
    rw [← hw9, e]
    have e2 : (fn_X6_countOf k u).1 = (fn_X9_houseNow k w9).1 := by
      clear e hw9
      obtain ⟨j, hj, rfl⟩ := nI_of2 (x := k) (M := 3) (n := 3) rfl (by rw [Int32.lt_iff_toInt_lt]; rw [Int32.le_iff_toInt_le] at hk; omega) hk2
      have ej : j = 0 ∨ j = 1 ∨ j = 2 ∨ j = 3 := by omega
      unfold fn_X9_houseNow fn_X6_countOf
      have u9 := fun x => se_updK w9.2.1 w9.2.2.1 w9.2.2.2.1 x
      rcases ej with rfl | rfl | rfl | rfl
      · rw [if_pos (show nI 0 = 0 from rfl)]
        exact h9.2.1.trans (se_houseK (nI 0) w9 _ (fun x => by rw [nI_clamp (by omega)]; exact (u9 x).1) 7 0 0 (by omega) (by omega)).symm
      · rw [if_neg (show ¬ nI 1 = 0 from by decide), if_pos (show nI 1 = 1 from rfl)]
        exact h9.2.2.1.trans (se_houseK (nI 1) w9 _ (fun x => by rw [nI_clamp (by omega)]; exact (u9 x).2.1) 7 0 0 (by omega) (by omega)).symm
      · rw [if_neg (show ¬ nI 2 = 0 from by decide), if_neg (show ¬ nI 2 = 1 from by decide), if_pos (show nI 2 = 2 from rfl)]
        exact h9.2.2.2.trans (se_houseK (nI 2) w9 _ (fun x => by rw [nI_clamp (by omega)]; exact (u9 x).2.2) 7 0 0 (by omega) (by omega)).symm
      · rw [if_neg (show ¬ nI 3 = 0 from by decide), if_neg (show ¬ nI 3 = 1 from by decide), if_neg (show ¬ nI 3 = 2 from by decide)]
        exact (se_houseL h9 7 0 0 (by omega) (by omega)).symm
    rw [← e2]
    generalize (fn_X6_countOf k u).1 = X9
    rw [hw9]
    exact sj1_val h rfl rfl
  · rw [k3, k4, zq_e, if_pos (show (0 : Int32) = 0 from rfl), if_neg (show ¬ jrr (jrt 1 1 (jst 0)) = 0 from by decide)]
    exact sj1_ia h rfl
theorem sj_knock (u : ky_BS) (w : ky_MV) (h : ky_SI u w) : ky_SI (fn_X6_knock u).2 (fn_X9_knock w).2 ∧ (fn_X6_knock u).1 = (fn_X9_knock w).1 := by
  have e : u.2.2.2 + 1 = w.2.2.2.1 + 1 := by rw [h.2.2.2]
  exact ⟨⟨h.1, h.2.1, h.2.2.1, e⟩, e⟩
/-! each call: the state, the answer -/
theorem si_zero (a b : Int32) (hb : b = 0 ∨ b = 1) (u : ky_BS) (nn : Int64) (w : ky_MV) (h : ky_SI u w) : ky_SI (ky_lw (fn_X6_zero a b u) u nn).2.1 (fn_X9_zero a b w).2 := (sj_zero a b hb u nn w h).1
theorem sm_zero (a b : Int32) (hb : b = 0 ∨ b = 1) (u : ky_BS) (nn : Int64) (w : ky_MV) (h : ky_SI u w) : (fn_X9_zero a b w).2.1 = (ky_lw (fn_X6_zero a b u) u nn).1 ∧ ((ky_lw (fn_X6_zero a b u) u nn).1 = 0 → (ky_lw (fn_X6_zero a b u) u nn).2.2 = (fn_X9_zero a b w).1.toInt64) := (sj_zero a b hb u nn w h).2
theorem si_endless (a b : Int32) (hb : b = 0 ∨ b = 1) (u : ky_BS) (nn : Int64) (w : ky_MV) (h : ky_SI u w) : ky_SI (ky_lw (fn_X6_endless a b u) u nn).2.1 (fn_X9_endless a b w).2 := (sj_endless a b hb u nn w h).1
theorem sm_endless (a b : Int32) (hb : b = 0 ∨ b = 1) (u : ky_BS) (nn : Int64) (w : ky_MV) (h : ky_SI u w) : (fn_X9_endless a b w).2.1 = (ky_lw (fn_X6_endless a b u) u nn).1 ∧ ((ky_lw (fn_X6_endless a b u) u nn).1 = 0 → (ky_lw (fn_X6_endless a b u) u nn).2.2 = (fn_X9_endless a b w).1.toInt64) := (sj_endless a b hb u nn w h).2
theorem si_quarters (a b : Int32) (u : ky_BS) (nn : Int64) (w : ky_MV) (h : ky_SI u w) : ky_SI (ky_lw (fn_X6_quarters a b u) u nn).2.1 (fn_X9_quarters a b w).2 := (sj_quarters a b u nn w h).1
theorem sm_quarters (a b : Int32) (u : ky_BS) (nn : Int64) (w : ky_MV) (h : ky_SI u w) : (fn_X9_quarters a b w).2.1 = (ky_lw (fn_X6_quarters a b u) u nn).1 ∧ ((ky_lw (fn_X6_quarters a b u) u nn).1 = 0 → (ky_lw (fn_X6_quarters a b u) u nn).2.2 = (fn_X9_quarters a b w).1.toInt64) := (sj_quarters a b u nn w h).2
theorem si_power (a k b : Int32) (hb : b = 0 ∨ b = 1) (u : ky_BS) (nn : Int64) (w : ky_MV) (h : ky_SI u w) : ky_SI (ky_lw (fn_X6_power a k b u) u nn).2.1 (fn_X9_power a k b w).2 := (sj_power a k b hb u nn w h).1
theorem sm_power (a k b : Int32) (hb : b = 0 ∨ b = 1) (u : ky_BS) (nn : Int64) (w : ky_MV) (h : ky_SI u w) : (fn_X9_power a k b w).2.1 = (ky_lw (fn_X6_power a k b u) u nn).1 ∧ ((ky_lw (fn_X6_power a k b u) u nn).1 = 0 → (ky_lw (fn_X6_power a k b u) u nn).2.2 = (fn_X9_power a k b w).1.toInt64) := (sj_power a k b hb u nn w h).2
theorem si_sample (a k b : Int32) (hb : b = 0 ∨ b = 1) (u : ky_BS) (nn : Int64) (w : ky_MV) (h : ky_SI u w) : ky_SI (ky_lw (fn_X6_sample a k b u) u nn).2.1 (fn_X9_sample a k b w).2 := (sj_sample a k b hb u nn w h).1
theorem sm_sample (a k b : Int32) (hb : b = 0 ∨ b = 1) (u : ky_BS) (nn : Int64) (w : ky_MV) (h : ky_SI u w) : (fn_X9_sample a k b w).2.1 = (ky_lw (fn_X6_sample a k b u) u nn).1 ∧ ((ky_lw (fn_X6_sample a k b u) u nn).1 = 0 → (ky_lw (fn_X6_sample a k b u) u nn).2.2 = (fn_X9_sample a k b w).1.toInt64) := (sj_sample a k b hb u nn w h).2
theorem si_bits (a k b : Int32) (u : ky_BS) (nn : Int64) (w : ky_MV) (h : ky_SI u w) : ky_SI (ky_lw (fn_X6_bits a k b u) u nn).2.1 (fn_X9_bits a k b w).2 := (sj_bits a k b u nn w h).1
theorem sm_bits (a k b : Int32) (u : ky_BS) (nn : Int64) (w : ky_MV) (h : ky_SI u w) : (fn_X9_bits a k b w).2.1 = (ky_lw (fn_X6_bits a k b u) u nn).1 ∧ ((ky_lw (fn_X6_bits a k b u) u nn).1 = 0 → (ky_lw (fn_X6_bits a k b u) u nn).2.2 = (fn_X9_bits a k b w).1.toInt64) := (sj_bits a k b u nn w h).2
theorem si_copy (a b : Int32) (u : ky_BS) (nn : Int64) (w : ky_MV) (h : ky_SI u w) : ky_SI (ky_lw (fn_X6_copy a b u) u nn).2.1 (fn_X9_copy a b w).2 := (sj_copy a b u nn w h).1
theorem sm_copy (a b : Int32) (u : ky_BS) (nn : Int64) (w : ky_MV) (h : ky_SI u w) : (fn_X9_copy a b w).2.1 = (ky_lw (fn_X6_copy a b u) u nn).1 ∧ ((ky_lw (fn_X6_copy a b u) u nn).1 = 0 → (ky_lw (fn_X6_copy a b u) u nn).2.2 = (fn_X9_copy a b w).1.toInt64) := (sj_copy a b u nn w h).2
theorem si_swap (a b : Int32) (u : ky_BS) (nn : Int64) (w : ky_MV) (h : ky_SI u w) : ky_SI (ky_lw (fn_X6_swap a b u) u nn).2.1 (fn_X9_swap a b w).2 := (sj_swap a b u nn w h).1
theorem sm_swap (a b : Int32) (u : ky_BS) (nn : Int64) (w : ky_MV) (h : ky_SI u w) : (fn_X9_swap a b w).2.1 = (ky_lw (fn_X6_swap a b u) u nn).1 ∧ ((ky_lw (fn_X6_swap a b u) u nn).1 = 0 → (ky_lw (fn_X6_swap a b u) u nn).2.2 = (fn_X9_swap a b w).1.toInt64) := (sj_swap a b u nn w h).2
theorem si_floor (a b : Int32) (u : ky_BS) (nn : Int64) (w : ky_MV) (h : ky_SI u w) : ky_SI (ky_lw (fn_X6_floor a b u) u nn).2.1 (fn_X9_floor a b w).2 := (sj_floor a b u nn w h).1
theorem sm_floor (a b : Int32) (u : ky_BS) (nn : Int64) (w : ky_MV) (h : ky_SI u w) : (fn_X9_floor a b w).2.1 = (ky_lw (fn_X6_floor a b u) u nn).1 ∧ ((ky_lw (fn_X6_floor a b u) u nn).1 = 0 → (ky_lw (fn_X6_floor a b u) u nn).2.2 = (fn_X9_floor a b w).1.toInt64) := (sj_floor a b u nn w h).2
theorem si_ceil (a b : Int32) (u : ky_BS) (nn : Int64) (w : ky_MV) (h : ky_SI u w) : ky_SI (ky_lw (fn_X6_ceil a b u) u nn).2.1 (fn_X9_ceil a b w).2 := (sj_ceil a b u nn w h).1
theorem sm_ceil (a b : Int32) (u : ky_BS) (nn : Int64) (w : ky_MV) (h : ky_SI u w) : (fn_X9_ceil a b w).2.1 = (ky_lw (fn_X6_ceil a b u) u nn).1 ∧ ((ky_lw (fn_X6_ceil a b u) u nn).1 = 0 → (ky_lw (fn_X6_ceil a b u) u nn).2.2 = (fn_X9_ceil a b w).1.toInt64) := (sj_ceil a b u nn w h).2
theorem si_rint (a b : Int32) (u : ky_BS) (nn : Int64) (w : ky_MV) (h : ky_SI u w) : ky_SI (ky_lw (fn_X6_rint a b u) u nn).2.1 (fn_X9_rint a b w).2 := (sj_rint a b u nn w h).1
theorem sm_rint (a b : Int32) (u : ky_BS) (nn : Int64) (w : ky_MV) (h : ky_SI u w) : (fn_X9_rint a b w).2.1 = (ky_lw (fn_X6_rint a b u) u nn).1 ∧ ((ky_lw (fn_X6_rint a b u) u nn).1 = 0 → (ky_lw (fn_X6_rint a b u) u nn).2.2 = (fn_X9_rint a b w).1.toInt64) := (sj_rint a b u nn w h).2
theorem si_size (a b : Int32) (u : ky_BS) (nn : Int64) (w : ky_MV) (h : ky_SI u w) : ky_SI (ky_lw (fn_X6_size a b u) u nn).2.1 (fn_X9_size a b w).2 := (sj_size a b u nn w h).1
theorem sm_size (a b : Int32) (u : ky_BS) (nn : Int64) (w : ky_MV) (h : ky_SI u w) : (fn_X9_size a b w).2.1 = (ky_lw (fn_X6_size a b u) u nn).1 ∧ ((ky_lw (fn_X6_size a b u) u nn).1 = 0 → (ky_lw (fn_X6_size a b u) u nn).2.2 = (fn_X9_size a b w).1.toInt64) := (sj_size a b u nn w h).2
theorem si_turn (a b : Int32) (u : ky_BS) (nn : Int64) (w : ky_MV) (h : ky_SI u w) : ky_SI (ky_lw (fn_X6_turn a b u) u nn).2.1 (fn_X9_turn a b w).2 := (sj_turn a b u nn w h).1
theorem sm_turn (a b : Int32) (u : ky_BS) (nn : Int64) (w : ky_MV) (h : ky_SI u w) : (fn_X9_turn a b w).2.1 = (ky_lw (fn_X6_turn a b u) u nn).1 ∧ ((ky_lw (fn_X6_turn a b u) u nn).1 = 0 → (ky_lw (fn_X6_turn a b u) u nn).2.2 = (fn_X9_turn a b w).1.toInt64) := (sj_turn a b u nn w h).2
theorem si_sign (a b : Int32) (u : ky_BS) (nn : Int64) (w : ky_MV) (h : ky_SI u w) : ky_SI (ky_lw (fn_X6_sign a b u) u nn).2.1 (fn_X9_sign a b w).2 := (sj_sign a b u nn w h).1
theorem sm_sign (a b : Int32) (u : ky_BS) (nn : Int64) (w : ky_MV) (h : ky_SI u w) : (fn_X9_sign a b w).2.1 = (ky_lw (fn_X6_sign a b u) u nn).1 ∧ ((ky_lw (fn_X6_sign a b u) u nn).1 = 0 → (ky_lw (fn_X6_sign a b u) u nn).2.2 = (fn_X9_sign a b w).1.toInt64) := (sj_sign a b u nn w h).2
theorem si_up (a b : Int32) (u : ky_BS) (nn : Int64) (w : ky_MV) (h : ky_SI u w) : ky_SI (ky_lw (fn_X6_up a b u) u nn).2.1 (fn_X9_up a b w).2 := (sj_up a b u nn w h).1
theorem sm_up (a b : Int32) (u : ky_BS) (nn : Int64) (w : ky_MV) (h : ky_SI u w) : (fn_X9_up a b w).2.1 = (ky_lw (fn_X6_up a b u) u nn).1 ∧ ((ky_lw (fn_X6_up a b u) u nn).1 = 0 → (ky_lw (fn_X6_up a b u) u nn).2.2 = (fn_X9_up a b w).1.toInt64) := (sj_up a b u nn w h).2
theorem si_down (a b : Int32) (u : ky_BS) (nn : Int64) (w : ky_MV) (h : ky_SI u w) : ky_SI (ky_lw (fn_X6_down a b u) u nn).2.1 (fn_X9_down a b w).2 := (sj_down a b u nn w h).1
theorem sm_down (a b : Int32) (u : ky_BS) (nn : Int64) (w : ky_MV) (h : ky_SI u w) : (fn_X9_down a b w).2.1 = (ky_lw (fn_X6_down a b u) u nn).1 ∧ ((ky_lw (fn_X6_down a b u) u nn).1 = 0 → (ky_lw (fn_X6_down a b u) u nn).2.2 = (fn_X9_down a b w).1.toInt64) := (sj_down a b u nn w h).2
theorem si_step (a b : Int32) (u : ky_BS) (nn : Int64) (w : ky_MV) (h : ky_SI u w) : ky_SI (ky_lw (fn_X6_step a b u) u nn).2.1 (fn_X9_step a b w).2 := (sj_step a b u nn w h).1
theorem sm_step (a b : Int32) (u : ky_BS) (nn : Int64) (w : ky_MV) (h : ky_SI u w) : (fn_X9_step a b w).2.1 = (ky_lw (fn_X6_step a b u) u nn).1 ∧ ((ky_lw (fn_X6_step a b u) u nn).1 = 0 → (ky_lw (fn_X6_step a b u) u nn).2.2 = (fn_X9_step a b w).1.toInt64) := (sj_step a b u nn w h).2
theorem si_unit (a b : Int32) (u : ky_BS) (nn : Int64) (w : ky_MV) (h : ky_SI u w) : ky_SI (ky_lw (fn_X6_unit a b u) u nn).2.1 (fn_X9_unit a b w).2 := (sj_unit a b u nn w h).1
theorem sm_unit (a b : Int32) (u : ky_BS) (nn : Int64) (w : ky_MV) (h : ky_SI u w) : (fn_X9_unit a b w).2.1 = (ky_lw (fn_X6_unit a b u) u nn).1 ∧ ((ky_lw (fn_X6_unit a b u) u nn).1 = 0 → (ky_lw (fn_X6_unit a b u) u nn).2.2 = (fn_X9_unit a b w).1.toInt64) := (sj_unit a b u nn w h).2
theorem si_times (a k b : Int32) (u : ky_BS) (nn : Int64) (w : ky_MV) (h : ky_SI u w) : ky_SI (ky_lw (fn_X6_times a k b u) u nn).2.1 (fn_X9_times a k b w).2 := (sj_times a k b u nn w h).1
theorem sm_times (a k b : Int32) (u : ky_BS) (nn : Int64) (w : ky_MV) (h : ky_SI u w) : (fn_X9_times a k b w).2.1 = (ky_lw (fn_X6_times a k b u) u nn).1 ∧ ((ky_lw (fn_X6_times a k b u) u nn).1 = 0 → (ky_lw (fn_X6_times a k b u) u nn).2.2 = (fn_X9_times a k b w).1.toInt64) := (sj_times a k b u nn w h).2
theorem si_side (a b c : Int32) (u : ky_BS) (nn : Int64) (w : ky_MV) (h : ky_SI u w) : ky_SI (ky_lw (fn_X6_side a b c u) u nn).2.1 (fn_X9_side a b c w).2 := (sj_side a b c u nn w h).1
theorem sm_side (a b c : Int32) (u : ky_BS) (nn : Int64) (w : ky_MV) (h : ky_SI u w) : (fn_X9_side a b c w).2.1 = (ky_lw (fn_X6_side a b c u) u nn).1 ∧ ((ky_lw (fn_X6_side a b c u) u nn).1 = 0 → (ky_lw (fn_X6_side a b c u) u nn).2.2 = (fn_X9_side a b c w).1.toInt64) := (sj_side a b c u nn w h).2
theorem si_max (a b c : Int32) (u : ky_BS) (nn : Int64) (w : ky_MV) (h : ky_SI u w) : ky_SI (ky_lw (fn_X6_max a b c u) u nn).2.1 (fn_X9_max a b c w).2 := (sj_max a b c u nn w h).1
theorem sm_max (a b c : Int32) (u : ky_BS) (nn : Int64) (w : ky_MV) (h : ky_SI u w) : (fn_X9_max a b c w).2.1 = (ky_lw (fn_X6_max a b c u) u nn).1 ∧ ((ky_lw (fn_X6_max a b c u) u nn).1 = 0 → (ky_lw (fn_X6_max a b c u) u nn).2.2 = (fn_X9_max a b c w).1.toInt64) := (sj_max a b c u nn w h).2
theorem si_min (a b c : Int32) (u : ky_BS) (nn : Int64) (w : ky_MV) (h : ky_SI u w) : ky_SI (ky_lw (fn_X6_min a b c u) u nn).2.1 (fn_X9_min a b c w).2 := (sj_min a b c u nn w h).1
theorem sm_min (a b c : Int32) (u : ky_BS) (nn : Int64) (w : ky_MV) (h : ky_SI u w) : (fn_X9_min a b c w).2.1 = (ky_lw (fn_X6_min a b c u) u nn).1 ∧ ((ky_lw (fn_X6_min a b c u) u nn).1 = 0 → (ky_lw (fn_X6_min a b c u) u nn).2.2 = (fn_X9_min a b c w).1.toInt64) := (sj_min a b c u nn w h).2
theorem si_walk (a k : Int32) (u : ky_BS) (nn : Int64) (w : ky_MV) (h : ky_SI u w) : ky_SI (ky_lw (fn_X6_walk a k u) u nn).2.1 (fn_X9_walk a k w).2 := (sj_walk a k u nn w h).1
theorem sm_walk (a k : Int32) (u : ky_BS) (nn : Int64) (w : ky_MV) (h : ky_SI u w) : (fn_X9_walk a k w).2.1 = (ky_lw (fn_X6_walk a k u) u nn).1 ∧ ((ky_lw (fn_X6_walk a k u) u nn).1 = 0 → (ky_lw (fn_X6_walk a k u) u nn).2.2 = (fn_X9_walk a k w).1.toInt64) := (sj_walk a k u nn w h).2
theorem si_kind (a : Int32) (u : ky_BS) (nn : Int64) (w : ky_MV) (h : ky_SI u w) : ky_SI (ky_lw (fn_X6_kind a u) u nn).2.1 (fn_X9_kind a w).2 := (sj_kind a u nn w h).1
theorem sm_kind (a : Int32) (u : ky_BS) (nn : Int64) (w : ky_MV) (h : ky_SI u w) : (fn_X9_kind a w).2.1 = (ky_lw (fn_X6_kind a u) u nn).1 ∧ ((ky_lw (fn_X6_kind a u) u nn).1 = 0 → (ky_lw (fn_X6_kind a u) u nn).2.2 = (fn_X9_kind a w).1.toInt64) := (sj_kind a u nn w h).2
theorem si_exponent (a : Int32) (u : ky_BS) (nn : Int64) (w : ky_MV) (h : ky_SI u w) : ky_SI (ky_lw (fn_X6_exponent a u) u nn).2.1 (fn_X9_exponent a w).2 := (sj_exponent a u nn w h).1
theorem sm_exponent (a : Int32) (u : ky_BS) (nn : Int64) (w : ky_MV) (h : ky_SI u w) : (fn_X9_exponent a w).2.1 = (ky_lw (fn_X6_exponent a u) u nn).1 ∧ ((ky_lw (fn_X6_exponent a u) u nn).1 = 0 → (ky_lw (fn_X6_exponent a u) u nn).2.2 = (fn_X9_exponent a w).1.toInt64) := (sj_exponent a u nn w h).2
theorem si_shortened (a : Int32) (u : ky_BS) (nn : Int64) (w : ky_MV) (h : ky_SI u w) : ky_SI (ky_lw (fn_X6_shortened a u) u nn).2.1 (fn_X9_shortened a w).2 := (sj_shortened a u nn w h).1
theorem sm_shortened (a : Int32) (u : ky_BS) (nn : Int64) (w : ky_MV) (h : ky_SI u w) : (fn_X9_shortened a w).2.1 = (ky_lw (fn_X6_shortened a u) u nn).1 ∧ ((ky_lw (fn_X6_shortened a u) u nn).1 = 0 → (ky_lw (fn_X6_shortened a u) u nn).2.2 = (fn_X9_shortened a w).1.toInt64) := (sj_shortened a u nn w h).2
theorem si_signed (a : Int32) (u : ky_BS) (nn : Int64) (w : ky_MV) (h : ky_SI u w) : ky_SI (ky_lw (fn_X6_signed a u) u nn).2.1 (fn_X9_signed a w).2 := (sj_signed a u nn w h).1
theorem sm_signed (a : Int32) (u : ky_BS) (nn : Int64) (w : ky_MV) (h : ky_SI u w) : (fn_X9_signed a w).2.1 = (ky_lw (fn_X6_signed a u) u nn).1 ∧ ((ky_lw (fn_X6_signed a u) u nn).1 = 0 → (ky_lw (fn_X6_signed a u) u nn).2.2 = (fn_X9_signed a w).1.toInt64) := (sj_signed a u nn w h).2
theorem si_place (a : Int32) (u : ky_BS) (nn : Int64) (w : ky_MV) (h : ky_SI u w) : ky_SI (ky_lw (fn_X6_place a u) u nn).2.1 (fn_X9_place a w).2 := (sj_place a u nn w h).1
theorem sm_place (a : Int32) (u : ky_BS) (nn : Int64) (w : ky_MV) (h : ky_SI u w) : (fn_X9_place a w).2.1 = (ky_lw (fn_X6_place a u) u nn).1 ∧ ((ky_lw (fn_X6_place a u) u nn).1 = 0 → (ky_lw (fn_X6_place a u) u nn).2.2 = (fn_X9_place a w).1.toInt64) := (sj_place a u nn w h).2
theorem si_digits (a k : Int32) (u : ky_BS) (nn : Int64) (w : ky_MV) (h : ky_SI u w) : ky_SI (ky_lw (fn_X6_digits a k u) u nn).2.1 (fn_X9_digits a k w).2 := (sj_digits a k u nn w h).1
theorem sm_digits (a k : Int32) (u : ky_BS) (nn : Int64) (w : ky_MV) (h : ky_SI u w) : (fn_X9_digits a k w).2.1 = (ky_lw (fn_X6_digits a k u) u nn).1 ∧ ((ky_lw (fn_X6_digits a k u) u nn).1 = 0 → (ky_lw (fn_X6_digits a k u) u nn).2.2 = (fn_X9_digits a k w).1.toInt64) := (sj_digits a k u nn w h).2
theorem si_round (a b : Int32) (hb : b = 0 ∨ b = 1) (u : ky_BS) (nn : Int64) (w : ky_MV) (h : ky_SI u w) : ky_SI (ky_lw (fn_X6_round a b u) u nn).2.1 (fn_X9_round a b w).2 := (sj_round a b u nn w h).1
theorem sm_round (a b : Int32) (hb : b = 0 ∨ b = 1) (u : ky_BS) (nn : Int64) (w : ky_MV) (h : ky_SI u w) : (fn_X9_round a b w).2.1 = (ky_lw (fn_X6_round a b u) u nn).1 ∧ ((ky_lw (fn_X6_round a b u) u nn).1 = 0 → (ky_lw (fn_X6_round a b u) u nn).2.2 = (fn_X9_round a b w).1.toInt64) := (sj_round a b u nn w h).2
theorem si_isWhole (a : Int32) (u : ky_BS) (nn : Int64) (w : ky_MV) (h : ky_SI u w) : ky_SI (ky_lwb (fn_X6_isWhole a u) u nn).2.1 (fn_X9_isWhole a w).2 := (sj_isWhole a u nn w h).1
theorem sm_isWhole (a : Int32) (u : ky_BS) (nn : Int64) (w : ky_MV) (h : ky_SI u w) : (fn_X9_isWhole a w).2.1 = (ky_lwb (fn_X6_isWhole a u) u nn).1 ∧ ((ky_lwb (fn_X6_isWhole a u) u nn).1 = 0 → (ky_lwb (fn_X6_isWhole a u) u nn).2.2 = if (fn_X9_isWhole a w).1 = 0 then 0 else 1) := (sj_isWhole a u nn w h).2
theorem si_compare (a b : Int32) (u : ky_BS) (nn : Int64) (w : ky_MV) (h : ky_SI u w) : ky_SI (ky_lw (fn_X6_compare a b u) u nn).2.1 (fn_X9_compare a b w).2 := (sj_compare a b u nn w h).1
theorem sm_compare (a b : Int32) (u : ky_BS) (nn : Int64) (w : ky_MV) (h : ky_SI u w) : (fn_X9_compare a b w).2.1 = (ky_lw (fn_X6_compare a b u) u nn).1 ∧ ((ky_lw (fn_X6_compare a b u) u nn).1 = 0 → (ky_lw (fn_X6_compare a b u) u nn).2.2 = (fn_X9_compare a b w).1.toInt64) := (sj_compare a b u nn w h).2
theorem si_apart (a b : Int32) (u : ky_BS) (nn : Int64) (w : ky_MV) (h : ky_SI u w) : ky_SI (ky_lw (fn_X6_apart a b u) u nn).2.1 (fn_X9_apart a b w).2 := (sj_apart a b u nn w h).1
theorem sm_apart (a b : Int32) (u : ky_BS) (nn : Int64) (w : ky_MV) (h : ky_SI u w) : (fn_X9_apart a b w).2.1 = (ky_lw (fn_X6_apart a b u) u nn).1 ∧ ((ky_lw (fn_X6_apart a b u) u nn).1 = 0 → (ky_lw (fn_X6_apart a b u) u nn).2.2 = (fn_X9_apart a b w).1.toInt64) := (sj_apart a b u nn w h).2
theorem si_areLike (a b : Int32) (u : ky_BS) (nn : Int64) (w : ky_MV) (h : ky_SI u w) : ky_SI (ky_lwb (fn_X6_areLike a b u) u nn).2.1 (fn_X9_areLike a b w).2 := (sj_areLike a b u nn w h).1
theorem sm_areLike (a b : Int32) (u : ky_BS) (nn : Int64) (w : ky_MV) (h : ky_SI u w) : (fn_X9_areLike a b w).2.1 = (ky_lwb (fn_X6_areLike a b u) u nn).1 ∧ ((ky_lwb (fn_X6_areLike a b u) u nn).1 = 0 → (ky_lwb (fn_X6_areLike a b u) u nn).2.2 = if (fn_X9_areLike a b w).1 = 0 then 0 else 1) := (sj_areLike a b u nn w h).2
theorem si_isBelow (a b : Int32) (u : ky_BS) (nn : Int64) (w : ky_MV) (h : ky_SI u w) : ky_SI (ky_lwb (fn_X6_isBelow a b u) u nn).2.1 (fn_X9_isBelow a b w).2 := (sj_isBelow a b u nn w h).1
theorem sm_isBelow (a b : Int32) (u : ky_BS) (nn : Int64) (w : ky_MV) (h : ky_SI u w) : (fn_X9_isBelow a b w).2.1 = (ky_lwb (fn_X6_isBelow a b u) u nn).1 ∧ ((ky_lwb (fn_X6_isBelow a b u) u nn).1 = 0 → (ky_lwb (fn_X6_isBelow a b u) u nn).2.2 = if (fn_X9_isBelow a b w).1 = 0 then 0 else 1) := (sj_isBelow a b u nn w h).2
theorem si_areSame (a b : Int32) (u : ky_BS) (nn : Int64) (w : ky_MV) (h : ky_SI u w) : ky_SI (ky_lwb (fn_X6_areSame a b u) u nn).2.1 (fn_X9_areSame a b w).2 := (sj_areSame a b u nn w h).1
theorem sm_areSame (a b : Int32) (u : ky_BS) (nn : Int64) (w : ky_MV) (h : ky_SI u w) : (fn_X9_areSame a b w).2.1 = (ky_lwb (fn_X6_areSame a b u) u nn).1 ∧ ((ky_lwb (fn_X6_areSame a b u) u nn).1 = 0 → (ky_lwb (fn_X6_areSame a b u) u nn).2.2 = if (fn_X9_areSame a b w).1 = 0 then 0 else 1) := (sj_areSame a b u nn w h).2
theorem si_isNext (a b : Int32) (u : ky_BS) (nn : Int64) (w : ky_MV) (h : ky_SI u w) : ky_SI (ky_lwb (fn_X6_isNext a b u) u nn).2.1 (fn_X9_isNext a b w).2 := (sj_isNext a b u nn w h).1
theorem sm_isNext (a b : Int32) (u : ky_BS) (nn : Int64) (w : ky_MV) (h : ky_SI u w) : (fn_X9_isNext a b w).2.1 = (ky_lwb (fn_X6_isNext a b u) u nn).1 ∧ ((ky_lwb (fn_X6_isNext a b u) u nn).1 = 0 → (ky_lwb (fn_X6_isNext a b u) u nn).2.2 = if (fn_X9_isNext a b w).1 = 0 then 0 else 1) := (sj_isNext a b u nn w h).2
theorem si_isBack (a k : Int32) (u : ky_BS) (nn : Int64) (w : ky_MV) (h : ky_SI u w) : ky_SI (ky_lwb (fn_X6_isBack a k u) u nn).2.1 (fn_X9_isBack a k w).2 := (sj_isBack a k u nn w h).1
theorem sm_isBack (a k : Int32) (u : ky_BS) (nn : Int64) (w : ky_MV) (h : ky_SI u w) : (fn_X9_isBack a k w).2.1 = (ky_lwb (fn_X6_isBack a k u) u nn).1 ∧ ((ky_lwb (fn_X6_isBack a k u) u nn).1 = 0 → (ky_lwb (fn_X6_isBack a k u) u nn).2.2 = if (fn_X9_isBack a k w).1 = 0 then 0 else 1) := (sj_isBack a k u nn w h).2
theorem si_house (k : Int32) (u : ky_BS) (nn : Int64) (w : ky_MV) (h : ky_SI u w) : ky_SI (ky_lw1 (fn_X6_house k u) u nn).2.1 (fn_X9_house k w).2 := (sj_house k u nn w h).1
theorem sm_house (k : Int32) (u : ky_BS) (nn : Int64) (w : ky_MV) (h : ky_SI u w) : (fn_X9_house k w).2.1 = (ky_lw1 (fn_X6_house k u) u nn).1 ∧ ((ky_lw1 (fn_X6_house k u) u nn).1 = 0 → (ky_lw1 (fn_X6_house k u) u nn).2.2 = (fn_X9_house k w).1.toInt64) := (sj_house k u nn w h).2
theorem si_knock (u : ky_BS) (w : ky_MV) (h : ky_SI u w) : ky_SI (fn_X6_knock u).2 (fn_X9_knock w).2 := (sj_knock u w h).1
theorem sm_knock (u : ky_BS) (w : ky_MV) (h : ky_SI u w) : (fn_X6_knock u).1 = (fn_X9_knock w).1 := (sj_knock u w h).2
theorem si_isSound (u : ky_BS) (w : ky_MV) (h : ky_SI u w) : ky_SI u (fn_X9_isSound w).2 := h
