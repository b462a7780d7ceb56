/-! sizes by their values: the size times 2^1074 -/
def se_U : Nat := 2 ^ 1074
theorem se_Upos : 0 < se_U := se_p2 _
theorem se_Ud {d : Nat} (h : d ≤ 1074) : se_U = 2 ^ d * 2 ^ (1074 - d) := by
  unfold se_U
  rw [← Nat.pow_add, show d + (1074 - d) = 1074 by omega]
def se_h (Z : Nat) : Nat := max (Z / 2 ^ 52) 1
def se_sv (Z : Nat) : Nat := se_m Z * 2 ^ (se_h Z - 1)
theorem se_svMono {X Y : Nat} (h : X < Y) (hY : Y < 2 ^ 63) : se_sv X < se_sv Y := by
  have mX := se_mlt (show X < 2 ^ 63 by omega)
  unfold se_sv
  by_cases c : se_h X = se_h Y
  · rw [c]
    refine Nat.mul_lt_mul_of_pos_right ?_ (se_p2 _)
    unfold se_h at c
    unfold se_m
    by_cases a : X / 2 ^ 52 = 0
    · by_cases b : Y / 2 ^ 52 = 0
      · rw [if_pos a, if_pos b]; omega
      · rw [if_pos a, if_neg b]; omega
    · have b : ¬ Y / 2 ^ 52 = 0 := by omega
      rw [if_neg a, if_neg b]; omega
  · have hh : se_h X + 1 ≤ se_h Y := by unfold se_h at c ⊢; omega
    have h1 : 1 ≤ se_h X := by unfold se_h; omega
    have hm := se_hm (Z := Y) (by unfold se_h at hh; omega)
    have e1 : se_m X * 2 ^ (se_h X - 1) < 2 ^ 53 * 2 ^ (se_h X - 1) := Nat.mul_lt_mul_of_pos_right mX (se_p2 _)
    have e2 : (2 : Nat) ^ 53 * 2 ^ (se_h X - 1) = 2 ^ 52 * 2 ^ (se_h X) := by
      rw [← Nat.pow_add, ← Nat.pow_add, show 53 + (se_h X - 1) = 52 + se_h X by omega]
    have e3 : 2 ^ (se_h X) ≤ 2 ^ (se_h Y - 1) := Nat.pow_le_pow_right (by decide) (by omega)
    have e4 : 2 ^ 52 * 2 ^ (se_h X) ≤ se_m Y * 2 ^ (se_h Y - 1) := Nat.mul_le_mul hm e3
    omega
theorem se_svLe {X Y : Nat} (hX : X < 2 ^ 63) (hY : Y < 2 ^ 63) : se_sv X ≤ se_sv Y ↔ X ≤ Y := by
  refine ⟨fun h => Nat.le_of_not_lt (fun z => ?_), fun h => ?_⟩
  · have := se_svMono z hX
    omega
  · rcases Nat.lt_or_eq_of_le h with z | z
    · exact Nat.le_of_lt (se_svMono z hY)
    · rw [z]; exact Nat.le_refl _
theorem se_svEq {X Y : Nat} (hX : X < 2 ^ 63) (hY : Y < 2 ^ 63) (h : se_sv X = se_sv Y) : X = Y :=
  Nat.le_antisymm ((se_svLe hX hY).mp (Nat.le_of_eq h)) ((se_svLe hY hX).mp (Nat.le_of_eq h.symm))
theorem se_svSmall {q : Nat} (h : q < 2 ^ 52) : se_sv q = q := by
  unfold se_sv
  rw [show se_h q - 1 = 0 by unfold se_h; omega, Nat.pow_zero, Nat.mul_one]
  unfold se_m
  rw [if_pos (by omega)]
  omega
theorem se_sv0 : se_sv 0 = 0 := by unfold se_sv; rw [show se_m 0 = 0 from rfl, Nat.zero_mul]
/-- a whole number's nearest size has its value -/
theorem se_nearW {w : Nat} (hw : w < 2 ^ 53) : ∃ X, X ≤ se_E ∧ fn_X2_nearestTo (lN w) ((0 : Int32)) = lN X ∧ se_sv X = w * se_U := by
  by_cases h0 : w = 0
  · subst h0
    refine ⟨0, Nat.zero_le _, ?_, by rw [se_sv0, Nat.zero_mul]⟩
    unfold fn_X2_nearestTo
    rw [if_pos ((se_z (by decide)).mpr rfl)]
    rfl
  · obtain ⟨d, hd, h1, h2⟩ := se_norm (by omega) hw
    refine ⟨_, se_finLe h1 h2, se_near2 (e := 0) hd h1 h2 (by omega) (by omega), ?_⟩
    unfold se_fin
    rw [if_pos (by omega), if_neg (by omega)]
    obtain ⟨M, hM⟩ : ∃ M, M = w * 2 ^ d := ⟨_, rfl⟩
    rw [← hM] at h1 h2 ⊢
    obtain ⟨X, hX⟩ : ∃ X, X = (0 - (d : Int) + 1075).toNat * 2 ^ 52 + (M - 2 ^ 52) := ⟨_, rfl⟩
    rw [← hX]
    have q1 : X / 2 ^ 52 = 1075 - d := by omega
    have q2 : X % 2 ^ 52 + 2 ^ 52 = M := by omega
    unfold se_sv se_h se_m
    rw [if_neg (show ¬ X / 2 ^ 52 = 0 by omega), q1, q2, hM, show max (1075 - d) 1 - 1 = 1074 - d by omega, Nat.mul_assoc, ← se_Ud (by omega)]
/-- what is ahead of the point and behind it, by the value -/
theorem se_WU {Z : Nat} (hZ : Z < 2 ^ 63) (hh : Z / 2 ^ 52 < 1075) : se_m Z / 2 ^ se_k Z = se_sv Z / se_U ∧ (se_m Z % 2 ^ se_k Z = 0 ↔ se_sv Z % se_U = 0) ∧ (se_m Z % 2 ^ se_k Z < 2 ^ (se_k Z - 1) ↔ 2 * (se_sv Z % se_U) < se_U) ∧ (se_m Z % 2 ^ se_k Z = 2 ^ (se_k Z - 1) ↔ 2 * (se_sv Z % se_U) = se_U) := by
  have hm := se_mlt hZ
  have h1 : 1 ≤ se_h Z := by unfold se_h; omega
  have h2 : se_h Z ≤ 1074 := by unfold se_h; omega
  obtain ⟨K, hK⟩ : ∃ K, K = 1075 - se_h Z := ⟨_, rfl⟩
  obtain ⟨b, hb⟩ : ∃ b, b = 2 ^ (se_h Z - 1) := ⟨_, rfl⟩
  obtain ⟨c, hc⟩ : ∃ c, c = 2 ^ (K - 1) := ⟨_, rfl⟩
  have hb0 : 0 < b := by rw [hb]; exact se_p2 _
  have hU : se_U = (2 * c) * b := by
    rw [se_Ud (d := K) (by omega), hb, hc, show 1074 - K = se_h Z - 1 by omega, show (2 : Nat) * 2 ^ (K - 1) = 2 ^ K by rw [Nat.mul_comm, ← Nat.pow_succ, show K - 1 + 1 = K by omega]]
  have e1 : se_sv Z / se_U = se_m Z / (2 * c) := by unfold se_sv; rw [← hb, hU, Nat.mul_div_mul_right _ _ hb0]
  have e2 : se_sv Z % se_U = se_m Z % (2 * c) * b := by unfold se_sv; rw [← hb, hU, Nat.mul_mod_mul_right]
  obtain ⟨r, hr⟩ : ∃ r, r = se_m Z % (2 * c) := ⟨_, rfl⟩
  have f1 : se_m Z % (2 * c) * b = 0 ↔ se_m Z % (2 * c) = 0 := by
    rw [Nat.mul_eq_zero]; omega
  have f2 : 2 * (se_m Z % (2 * c) * b) < (2 * c) * b ↔ se_m Z % (2 * c) < c := by
    rw [← hr, show 2 * (r * b) = (2 * r) * b by rw [Nat.mul_assoc], Nat.mul_lt_mul_right hb0]; omega
  have f3 : 2 * (se_m Z % (2 * c) * b) = (2 * c) * b ↔ se_m Z % (2 * c) = c := by
    rw [← hr, show 2 * (r * b) = (2 * r) * b by rw [Nat.mul_assoc], Nat.mul_left_inj (by omega)]; omega
  rw [e1, e2, hU, f1, f2, f3]
  have hcK : 2 * c = 2 ^ K := by rw [hc, Nat.mul_comm, ← Nat.pow_succ, show K - 1 + 1 = K by omega]
  by_cases k : se_k Z = K
  · rw [k, hcK, hc]
    exact ⟨rfl, Iff.rfl, Iff.rfl, Iff.rfl⟩
  · have hhz : se_h Z = max (Z / 2 ^ 52) 1 := rfl
    have k1 : se_k Z = 60 := by
      unfold se_k at k ⊢
      omega
    have k2 : 60 ≤ K := by
      unfold se_k at k
      omega
    have p1 : 2 ^ 59 ≤ c := by rw [hc]; exact Nat.pow_le_pow_right (by decide) (by omega)
    rw [k1, Nat.mod_eq_of_lt (show se_m Z < 2 ^ 60 by omega), Nat.mod_eq_of_lt (show se_m Z < 2 * c by omega), Nat.div_eq_of_lt (show se_m Z < 2 ^ 60 by omega), Nat.div_eq_of_lt (show se_m Z < 2 * c by omega)]
    refine ⟨rfl, Iff.rfl, ?_, ?_⟩ <;> omega
/-- from 2^52 on there is nothing behind the point -/
theorem se_WU2 {Z : Nat} (hh : ¬ Z / 2 ^ 52 < 1075) : se_sv Z % se_U = 0 := by
  have e : se_sv Z = se_m Z * 2 ^ (se_h Z - 1 - 1074) * se_U := by
    unfold se_sv se_U
    rw [Nat.mul_assoc, ← Nat.pow_add, show se_h Z - 1 - 1074 + 1074 = se_h Z - 1 by unfold se_h; omega]
  rw [e, Nat.mul_mod_left]
theorem se_r0 {Z : Nat} (hZ : Z < 2 ^ 63) : se_m Z % 2 ^ se_k Z = 0 ↔ se_sv Z % se_U = 0 := by
  by_cases c : Z / 2 ^ 52 < 1075
  · exact (se_WU hZ c).2.1
  · rw [show se_k Z = 0 by unfold se_k; omega, Nat.pow_zero, Nat.mod_one]
    exact ⟨fun _ => se_WU2 c, fun _ => rfl⟩
def se_dn (x : Nat) : Nat := x / se_U * se_U
def se_up (x : Nat) : Nat := (x + (se_U - 1)) / se_U * se_U
def se_hv (x : Nat) : Nat := if se_U < 2 * (x % se_U) then 1 else if 2 * (x % se_U) = se_U then (if x / se_U % 2 = 1 then 1 else 0) else 0
def se_rd (x : Nat) : Nat := (x / se_U + se_hv x) * se_U
theorem se_x (x : Nat) : x = x / se_U * se_U + x % se_U := by
  have := Nat.div_add_mod x se_U
  rw [Nat.mul_comm] at this
  exact this.symm
theorem se_upIs (x : Nat) : (x + (se_U - 1)) / se_U = if x % se_U = 0 then x / se_U else x / se_U + 1 := by
  have hU := se_Upos
  have hl := Nat.mod_lt x hU
  have e := se_x x
  by_cases c : x % se_U = 0
  · rw [if_pos c]
    refine Nat.div_eq_of_lt_le ?_ ?_
    · omega
    · rw [Nat.add_mul]; omega
  · rw [if_neg c]
    refine Nat.div_eq_of_lt_le ?_ ?_
    · rw [Nat.add_mul]; omega
    · rw [Nat.add_mul, Nat.add_mul]; omega
theorem se_dnMono {x y : Nat} (h : x ≤ y) : se_dn x ≤ se_dn y := Nat.mul_le_mul_right _ (Nat.div_le_div_right h)
theorem se_upMono {x y : Nat} (h : x ≤ y) : se_up x ≤ se_up y := Nat.mul_le_mul_right _ (Nat.div_le_div_right (by omega))
theorem se_hv1 (x : Nat) : se_hv x ≤ 1 := by
  unfold se_hv
  (repeat' split) <;> omega
theorem se_rdMono {x y : Nat} (h : x ≤ y) : se_rd x ≤ se_rd y := by
  refine Nat.mul_le_mul_right _ ?_
  have a := Nat.div_le_div_right (c := se_U) h
  have b := se_hv1 x
  by_cases c : x / se_U = y / se_U
  · have e1 := se_x x
    have e2 := se_x y
    rw [c] at e1
    have hl : x % se_U ≤ y % se_U := by omega
    unfold se_hv
    rw [c]
    (repeat' split) <;> omega
  · omega
theorem se_dnLe (x : Nat) : se_dn x ≤ x := Nat.div_mul_le_self _ _
theorem se_upGe (x : Nat) : x ≤ se_up x := by
  have e := se_x x
  have hl := Nat.mod_lt x se_Upos
  unfold se_up
  rw [se_upIs]
  by_cases c : x % se_U = 0
  · rw [if_pos c]; omega
  · rw [if_neg c, Nat.add_mul]; omega
theorem se_id (x : Nat) (h : x % se_U = 0) : se_dn x = x ∧ se_up x = x ∧ se_rd x = x := by
  have e := se_x x
  refine ⟨?_, ?_, ?_⟩
  · unfold se_dn; omega
  · unfold se_up; rw [se_upIs, if_pos h]; omega
  · have hU := se_Upos
    have hv : se_hv x = 0 := by
      unfold se_hv
      rw [h]
      (repeat' split) <;> omega
    unfold se_rd
    rw [hv, Nat.add_zero]; omega
theorem se_up1 (x : Nat) (h : ¬ x % se_U = 0) : se_up x = (x / se_U + 1) * se_U := by
  unfold se_up; rw [se_upIs, if_neg h]
/-- what is taken of a cell's long: its size by the value -/
def se_tk (W : Int64) (s x : Nat) : Prop := ∃ X, X ≤ se_E ∧ W = lN (s * 2 ^ 63 + X) ∧ se_sv X = x
theorem se_tkId {s Z : Nat} (hZ : Z ≤ se_E) {x : Nat} (h : se_sv Z = x) : se_tk (lN (s * 2 ^ 63 + Z)) s x := ⟨Z, hZ, rfl, h⟩
/-- a whole number near a cell's, with its side -/
theorem se_tkLike {s Z : Nat} (hs : s < 2) (hZ : Z ≤ se_E) (w : Nat) (hw : w < 2 ^ 53) {x : Nat} (hx : w * se_U = x) : se_tk (fn_X4_wholeLike (lN (s * 2 ^ 63 + Z)) (lN w)) s x := by
  obtain ⟨X, hX, e1, e2⟩ := se_nearW hw
  unfold fn_X4_wholeLike
  rw [e1, se_joinV hs (se_E63 hZ) (se_E63 hX)]
  exact ⟨X, hX, rfl, e2.trans hx⟩
theorem se_tkFloor {s Z : Nat} (hs : s < 2) (hZ : Z ≤ se_E) : se_tk (fn_X4_floorFrom (lN (s * 2 ^ 63 + Z))) s (if s = 0 then se_dn (se_sv Z) else se_up (se_sv Z)) := by
  have h9 := se_E63 hZ
  unfold fn_X4_floorFrom
  rw [se_restV hs h9]
  by_cases c : se_m Z % 2 ^ se_k Z = 0
  · obtain ⟨i1, i2, -⟩ := se_id _ ((se_r0 h9).mp c)
    rw [if_pos ((se_zr h9).mpr c), i1, i2, ite_self]
    exact se_tkId hZ rfl
  · have hh := se_kh c
    have hw := se_wholeLt hZ c
    have e := (se_WU h9 hh).1
    rw [if_neg (mt (se_zr h9).mp c), se_aheadV hs h9, se_downV hs h9, show lN (se_m Z / 2 ^ se_k Z) + ((0 : Int32)).toInt64 = lN (se_m Z / 2 ^ se_k Z + 0) from lN_add _ 0, show lN (se_m Z / 2 ^ se_k Z) + ((1 : Int32)).toInt64 = lN (se_m Z / 2 ^ se_k Z + 1) from lN_add _ 1]
    rcases se_s2 hs with rfl | rfl
    · rw [if_pos (show nI 0 = 0 from rfl), if_pos rfl]
      refine se_tkLike (by omega) hZ _ (by omega) ?_
      rw [e]; rfl
    · rw [if_neg (show ¬ nI 1 = 0 from by decide), if_neg (by decide)]
      refine se_tkLike (by omega) hZ _ (by omega) ?_
      rw [e, se_up1 _ (mt (se_r0 h9).mpr c)]
theorem se_tkCeil {s Z : Nat} (hs : s < 2) (hZ : Z ≤ se_E) : se_tk (fn_X4_ceilFrom (lN (s * 2 ^ 63 + Z))) s (if s = 0 then se_up (se_sv Z) else se_dn (se_sv Z)) := by
  have h9 := se_E63 hZ
  unfold fn_X4_ceilFrom
  rw [se_restV hs h9]
  by_cases c : se_m Z % 2 ^ se_k Z = 0
  · obtain ⟨i1, i2, -⟩ := se_id _ ((se_r0 h9).mp c)
    rw [if_pos ((se_zr h9).mpr c), i1, i2, ite_self]
    exact se_tkId hZ rfl
  · have hh := se_kh c
    have hw := se_wholeLt hZ c
    have e := (se_WU h9 hh).1
    rw [if_neg (mt (se_zr h9).mp c), se_aheadV hs h9, se_downV hs h9, show lN (se_m Z / 2 ^ se_k Z) + ((0 : Int32)).toInt64 = lN (se_m Z / 2 ^ se_k Z + 0) from lN_add _ 0, show lN (se_m Z / 2 ^ se_k Z) + ((1 : Int32)).toInt64 = lN (se_m Z / 2 ^ se_k Z + 1) from lN_add _ 1]
    rcases se_s2 hs with rfl | rfl
    · rw [if_pos (show nI 0 = 0 from rfl), if_pos rfl]
      refine se_tkLike (by omega) hZ _ (by omega) ?_
      rw [e, se_up1 _ (mt (se_r0 h9).mpr c)]
    · rw [if_neg (show ¬ nI 1 = 0 from by decide), if_neg (by decide)]
      refine se_tkLike (by omega) hZ _ (by omega) ?_
      rw [e]; rfl
theorem se_hvBh {Z : Nat} (hZ : Z < 2 ^ 63) (hh : Z / 2 ^ 52 < 1075) (c : ¬ se_m Z % 2 ^ se_k Z = 0) : (if se_bh (se_m Z) (se_k Z) = 3 then 1 else if se_bh (se_m Z) (se_k Z) = 2 then (if se_m Z / 2 ^ se_k Z % 2 = 1 then 1 else 0) else 0) = se_hv (se_sv Z) := by
  obtain ⟨e, -, h2, h3⟩ := se_WU hZ hh
  unfold se_hv se_bh
  rw [if_neg c, e]
  by_cases a : se_m Z % 2 ^ se_k Z < 2 ^ (se_k Z - 1)
  · have := h2.mp a
    rw [if_pos a, if_neg (show ¬ (1 : Nat) = 3 by decide), if_neg (show ¬ (1 : Nat) = 2 by decide), if_neg (show ¬ se_U < 2 * (se_sv Z % se_U) by omega), if_neg (show ¬ 2 * (se_sv Z % se_U) = se_U by omega)]
  · rw [if_neg a]
    by_cases b : se_m Z % 2 ^ se_k Z = 2 ^ (se_k Z - 1)
    · have := h3.mp b
      rw [if_pos b, if_neg (show ¬ (2 : Nat) = 3 by decide), if_pos rfl, if_neg (show ¬ se_U < 2 * (se_sv Z % se_U) by omega), if_pos this]
    · have a1 := mt h2.mpr a
      have b1 := mt h3.mpr b
      rw [if_neg b, if_pos rfl, if_pos (show se_U < 2 * (se_sv Z % se_U) by omega)]
theorem se_tkRint {s Z : Nat} (hs : s < 2) (hZ : Z ≤ se_E) : se_tk (fn_X4_rintFrom (lN (s * 2 ^ 63 + Z))) s (se_rd (se_sv Z)) := by
  have h9 := se_E63 hZ
  have hm := se_mlt h9
  unfold fn_X4_rintFrom
  rw [se_restV hs h9]
  by_cases c : se_m Z % 2 ^ se_k Z = 0
  · obtain ⟨-, -, i3⟩ := se_id _ ((se_r0 h9).mp c)
    rw [if_pos ((se_zr h9).mpr c), i3]
    exact se_tkId hZ rfl
  · have hh := se_kh c
    have hw := se_wholeLt hZ c
    have hk : 1 ≤ se_k Z := Nat.pos_of_ne_zero (fun z => c (by rw [z, Nat.pow_zero, Nat.mod_one]))
    have hv := se_hv1 (se_sv Z)
    rw [if_neg (mt (se_zr h9).mp c), se_factor hs h9, se_kV hs h9, se_halfIs hm hk (se_k60 Z), se_halfBh _ _ c, se_hvBh h9 hh c]
    refine se_tkLike hs hZ _ (by omega) ?_
    unfold se_rd
    rw [(se_WU h9 hh).1]
/-! rungs -/
def se_rg (s Z : Nat) : Int := if s = 0 then (Z : Int) else - (Z : Int)
theorem se_rg0 (Z : Nat) : se_rg 0 Z = (Z : Int) := rfl
theorem se_rg1 (Z : Nat) : se_rg 1 Z = - (Z : Int) := rfl
theorem se_rB {s Z : Nat} (hZ : Z ≤ se_E) : -9218868437227405312 ≤ se_rg s Z ∧ se_rg s Z ≤ 9218868437227405312 := by
  have hE : se_E = 9218868437227405312 := rfl
  unfold se_rg
  split <;> omega
theorem se_rungL {s Z : Nat} (hs : s < 2) (hZ : Z ≤ se_E) : fn_X0_rungIn (lN (s * 2 ^ 63 + Z)) = se_l (se_rg s Z) := by
  rw [se_rungV hs (se_E63 hZ), se_rung8 hs]
  rfl
theorem se_rungTk {W : Int64} {s x : Nat} (hs : s < 2) (h : se_tk W s x) : ∃ X, X ≤ se_E ∧ se_sv X = x ∧ fn_X0_rungIn W = se_l (se_rg s X) := by
  obtain ⟨X, hX, rfl, e⟩ := h
  exact ⟨X, hX, e, se_rungL hs hX⟩
/-- what comes first by the order -/
def se_le (s Z r Y : Nat) : Prop := (s = 0 ∧ r = 0 ∧ Z ≤ Y) ∨ (s = 1 ∧ r = 1 ∧ Y ≤ Z) ∨ (s = 1 ∧ r = 0)
theorem se_rankLe {s Z r Y : Nat} (hs : s < 2) (hr : r < 2) (hZ : Z ≤ se_E) (hY : Y ≤ se_E) : ¬ (0 : Int32) < lg_cmp (fn_X0_rankIn (lN (s * 2 ^ 63 + Z))) (fn_X0_rankIn (lN (r * 2 ^ 63 + Y))) → se_le s Z r Y := by
  have h8 := se_E63 hZ
  have h9 := se_E63 hY
  intro h
  rw [se_rankV hs h8, se_rankV hr h9, se_place8 hs, se_place8 hr, se_cgt (by split <;> omega) (by split <;> omega) (by split <;> omega) (by split <;> omega)] at h
  unfold se_le
  rcases se_s2 hs with rfl | rfl <;> rcases se_s2 hr with rfl | rfl <;> simp only [if_true, if_false, Nat.one_ne_zero] at h <;> omega
theorem se_monoTk {V W : Int64} {s r Z Y x y : Nat} (hs : s < 2) (hr : r < 2) (hV : se_tk V s x) (hW : se_tk W r y) (hl : se_le s Z r Y) (h0 : s = 0 → r = 0 → Z ≤ Y → x ≤ y) (h1 : s = 1 → r = 1 → Y ≤ Z → y ≤ x) : lg_cmp (fn_X0_rungIn V) (fn_X0_rungIn W) ≤ (0 : Int32) := by
  obtain ⟨X, hX, e1, e2⟩ := se_rungTk hs hV
  obtain ⟨X', hX', e3, e4⟩ := se_rungTk hr hW
  have h8 := se_E63 hX
  have h9 := se_E63 hX'
  have b1 := se_rB (s := s) hX
  have b2 := se_rB (s := r) hX'
  rw [e2, e4, se_cle (by omega) (by omega) (by omega) (by omega)]
  rcases hl with ⟨rfl, rfl, hl⟩ | ⟨rfl, rfl, hl⟩ | ⟨rfl, rfl⟩
  · have := h0 rfl rfl hl
    rw [← e1, ← e3, se_svLe h8 h9] at this
    rw [se_rg0, se_rg0]; omega
  · have := h1 rfl rfl hl
    rw [← e1, ← e3, se_svLe h9 h8] at this
    rw [se_rg1, se_rg1]; omega
  · rw [se_rg1, se_rg0]; omega
theorem se_moFloor {s r Z Y : Nat} (hs : s < 2) (hr : r < 2) (hZ : Z ≤ se_E) (hY : Y ≤ se_E) (hl : se_le s Z r Y) : lg_cmp (fn_X0_rungIn (fn_X4_floorFrom (lN (s * 2 ^ 63 + Z)))) (fn_X0_rungIn (fn_X4_floorFrom (lN (r * 2 ^ 63 + Y)))) ≤ (0 : Int32) := by
  refine se_monoTk hs hr (se_tkFloor hs hZ) (se_tkFloor hr hY) hl (fun a b c => ?_) (fun a b c => ?_)
  · rw [if_pos a, if_pos b]; exact se_dnMono ((se_svLe (se_E63 hZ) (se_E63 hY)).mpr c)
  · rw [if_neg (show ¬ s = 0 by omega), if_neg (show ¬ r = 0 by omega)]; exact se_upMono ((se_svLe (se_E63 hY) (se_E63 hZ)).mpr c)
theorem se_moCeil {s r Z Y : Nat} (hs : s < 2) (hr : r < 2) (hZ : Z ≤ se_E) (hY : Y ≤ se_E) (hl : se_le s Z r Y) : lg_cmp (fn_X0_rungIn (fn_X4_ceilFrom (lN (s * 2 ^ 63 + Z)))) (fn_X0_rungIn (fn_X4_ceilFrom (lN (r * 2 ^ 63 + Y)))) ≤ (0 : Int32) := by
  refine se_monoTk hs hr (se_tkCeil hs hZ) (se_tkCeil hr hY) hl (fun a b c => ?_) (fun a b c => ?_)
  · rw [if_pos a, if_pos b]; exact se_upMono ((se_svLe (se_E63 hZ) (se_E63 hY)).mpr c)
  · rw [if_neg (show ¬ s = 0 by omega), if_neg (show ¬ r = 0 by omega)]; exact se_dnMono ((se_svLe (se_E63 hY) (se_E63 hZ)).mpr c)
theorem se_moRint {s r Z Y : Nat} (hs : s < 2) (hr : r < 2) (hZ : Z ≤ se_E) (hY : Y ≤ se_E) (hl : se_le s Z r Y) : lg_cmp (fn_X0_rungIn (fn_X4_rintFrom (lN (s * 2 ^ 63 + Z)))) (fn_X0_rungIn (fn_X4_rintFrom (lN (r * 2 ^ 63 + Y)))) ≤ (0 : Int32) := by
  refine se_monoTk hs hr (se_tkRint hs hZ) (se_tkRint hr hY) hl (fun a b c => ?_) (fun a b c => ?_)
  · exact se_rdMono ((se_svLe (se_E63 hZ) (se_E63 hY)).mpr c)
  · exact se_rdMono ((se_svLe (se_E63 hY) (se_E63 hZ)).mpr c)
/-! up, down: the rung, one more or less -/
theorem se_upRung {s Z : Nat} (hs : s < 2) (hZ : Z ≤ se_E) : ∃ r X, r < 2 ∧ X ≤ se_E ∧ fn_X4_upFrom (lN (s * 2 ^ 63 + Z)) = lN (r * 2 ^ 63 + X) ∧ se_rg r X = min (se_rg s Z + 1) (se_E : Int) := by
  have h9 := se_E63 hZ
  have hE : se_E = 9218868437227405312 := rfl
  unfold fn_X4_upFrom
  rw [se_sizeV hs h9, se_downV hs h9, show (9218868437227405312 : Int64) = lN se_E from rfl]
  have z0 := se_neq (a := s * 2 ^ 63 + Z) (b := se_E) (by omega) (by omega)
  have z1 := se_z (a := Z) (by omega)
  rcases se_s2 hs with rfl | rfl
  · by_cases c : Z = se_E
    · rw [if_pos (z0.mpr (by omega))]
      refine ⟨0, Z, by omega, hZ, rfl, ?_⟩
      rw [se_rg0]; omega
    · rw [if_neg (mt z0.mp (by omega)), if_pos (show nI 0 = 0 from rfl)]
      by_cases c0 : Z = 0
      · rw [if_pos (z1.mpr c0)]
        refine ⟨0, 1, by omega, by omega, by rw [Nat.zero_mul, Nat.zero_add]; rfl, ?_⟩
        rw [se_rg0, se_rg0]; omega
      · rw [if_neg (mt z1.mp c0), lN_1, Nat.add_assoc]
        refine ⟨0, Z + 1, by omega, by omega, rfl, ?_⟩
        rw [se_rg0, se_rg0]; omega
  · rw [if_neg (mt z0.mp (by omega)), if_neg (show ¬ nI 1 = 0 from by decide)]
    by_cases c0 : Z = 0
    · rw [if_pos (z1.mpr c0)]
      refine ⟨0, 1, by omega, by omega, by rw [Nat.zero_mul, Nat.zero_add]; rfl, ?_⟩
      rw [se_rg0, se_rg1]; omega
    · rw [if_neg (mt z1.mp c0), show (1 : Int64) = lN 1 from rfl, lN_sub (by omega)]
      refine ⟨1, Z - 1, by omega, by omega, by rw [show 1 * 2 ^ 63 + Z - 1 = 1 * 2 ^ 63 + (Z - 1) by omega], ?_⟩
      rw [se_rg1, se_rg1]; omega
theorem se_dnRung {s Z : Nat} (hs : s < 2) (hZ : Z ≤ se_E) : ∃ r X, r < 2 ∧ X ≤ se_E ∧ fn_X4_downFrom (lN (s * 2 ^ 63 + Z)) = lN (r * 2 ^ 63 + X) ∧ se_rg r X = max (se_rg s Z - 1) (- (se_E : Int)) := by
  have h9 := se_E63 hZ
  have hn : ∀ a b : Nat, a < 2 → se_rg (1 - a) b = - se_rg a b := fun a b ha => by
    rcases se_s2 ha with rfl | rfl
    · rfl
    · show ((b : Nat) : Int) = - - ((b : Nat) : Int)
      omega
  rw [se_downUp (v := (nI s, lN Z)) ⟨s, Z, hs, hZ, rfl, rfl⟩, se_turnV hs h9]
  obtain ⟨r, X, hr, hX, e1, e2⟩ := se_upRung (s := 1 - s) (Z := Z) (by omega) hZ
  refine ⟨1 - r, X, by omega, hX, by rw [e1, se_turnV hr (se_E63 hX)], ?_⟩
  rw [hn s Z hs] at e2
  rw [hn r X hr, e2]
  omega
theorem se_leRung {s r Z Y : Nat} (hl : se_le s Z r Y) : se_rg s Z ≤ se_rg r Y := by
  rcases hl with ⟨rfl, rfl, hl⟩ | ⟨rfl, rfl, hl⟩ | ⟨rfl, rfl⟩
  · rw [se_rg0, se_rg0]; omega
  · rw [se_rg1, se_rg1]; omega
  · rw [se_rg1, se_rg0]; omega
theorem se_moUp {s r Z Y : Nat} (hs : s < 2) (hr : r < 2) (hZ : Z ≤ se_E) (hY : Y ≤ se_E) (hl : se_le s Z r Y) : lg_cmp (fn_X0_rungIn (fn_X4_upFrom (lN (s * 2 ^ 63 + Z)))) (fn_X0_rungIn (fn_X4_upFrom (lN (r * 2 ^ 63 + Y)))) ≤ (0 : Int32) := by
  obtain ⟨a, X, ha, hX, e1, e2⟩ := se_upRung hs hZ
  obtain ⟨b, X', hb, hX', e3, e4⟩ := se_upRung hr hY
  have h := se_leRung hl
  have b1 := se_rB (s := a) hX
  have b2 := se_rB (s := b) hX'
  rw [e1, e3, se_rungL ha hX, se_rungL hb hX', se_cle (by omega) (by omega) (by omega) (by omega), e2, e4]
  omega
theorem se_moDown {s r Z Y : Nat} (hs : s < 2) (hr : r < 2) (hZ : Z ≤ se_E) (hY : Y ≤ se_E) (hl : se_le s Z r Y) : lg_cmp (fn_X0_rungIn (fn_X4_downFrom (lN (s * 2 ^ 63 + Z)))) (fn_X0_rungIn (fn_X4_downFrom (lN (r * 2 ^ 63 + Y)))) ≤ (0 : Int32) := by
  obtain ⟨a, X, ha, hX, e1, e2⟩ := se_dnRung hs hZ
  obtain ⟨b, X', hb, hX', e3, e4⟩ := se_dnRung hr hY
  have h := se_leRung hl
  have b1 := se_rB (s := a) hX
  have b2 := se_rB (s := b) hX'
  rw [e1, e3, se_rungL ha hX, se_rungL hb hX', se_cle (by omega) (by omega) (by omega) (by omega), e2, e4]
  omega
theorem se_tkSign {s Z : Nat} (hs : s < 2) (hZ : Z ≤ se_E) : se_tk (fn_X4_signFrom (lN (s * 2 ^ 63 + Z))) s (if Z = 0 then 0 else se_sv 4607182418800017408) := by
  have h9 := se_E63 hZ
  have z1 := se_z (a := Z) (by omega)
  unfold fn_X4_signFrom
  rw [se_sizeV hs h9]
  by_cases c0 : Z = 0
  · rw [if_pos (z1.mpr c0), if_pos c0, c0]
    exact se_tkId (Nat.zero_le _) se_sv0
  · rw [if_neg (mt z1.mp c0), if_neg c0, show (4607182418800017408 : Int64) = lN 4607182418800017408 from rfl, se_joinV hs h9 (by decide)]
    exact se_tkId (by decide) rfl
theorem se_moSign {s r Z Y : Nat} (hs : s < 2) (hr : r < 2) (hZ : Z ≤ se_E) (hY : Y ≤ se_E) (hl : se_le s Z r Y) : lg_cmp (fn_X0_rungIn (fn_X4_signFrom (lN (s * 2 ^ 63 + Z)))) (fn_X0_rungIn (fn_X4_signFrom (lN (r * 2 ^ 63 + Y)))) ≤ (0 : Int32) := by
  have t1 := se_tkSign hs hZ
  have t2 := se_tkSign hr hY
  generalize se_sv 4607182418800017408 = o at t1 t2
  refine se_monoTk hs hr t1 t2 hl (fun a b c => ?_) (fun a b c => ?_) <;> (repeat' split) <;> omega
/-! times 2^5: the value times 32, ENDLESS at most -/
theorem se_svE : se_sv se_E = 2 ^ 52 * 2 ^ 2046 := by
  unfold se_sv
  rw [show se_m se_E = 2 ^ 52 from rfl, show se_h se_E - 1 = 2046 from rfl]
theorem se_finSv {M : Nat} {e : Int} {t : Nat} (h1 : 2 ^ 52 ≤ M) (h2 : M < 2 ^ 53) (he : -1074 ≤ e) (ht : t = M * 2 ^ (e + 1074).toNat) : se_sv (se_fin M e) = min t (se_sv se_E) := by
  have hE : se_E = 9218868437227405312 := rfl
  rw [ht]
  by_cases c : e ≤ 971
  · have hx : se_fin M e = (e + 1075).toNat * 2 ^ 52 + (M - 2 ^ 52) := by
      unfold se_fin
      rw [if_pos c, if_neg (by omega)]
    obtain ⟨X, hX⟩ : ∃ X, X = (e + 1075).toNat * 2 ^ 52 + (M - 2 ^ 52) := ⟨_, rfl⟩
    have q1 : X / 2 ^ 52 = (e + 1075).toNat := by omega
    have q2 : X % 2 ^ 52 + 2 ^ 52 = M := by omega
    have hs : se_sv X = M * 2 ^ (e + 1074).toNat := by
      unfold se_sv se_h se_m
      rw [if_neg (show ¬ X / 2 ^ 52 = 0 by omega), q1, q2, show max (e + 1075).toNat 1 - 1 = (e + 1074).toNat by omega]
    have hl : se_sv X ≤ se_sv se_E := (se_svLe (by omega) (by omega)).mpr (by omega)
    rw [hx, ← hX, ← hs]
    exact (Nat.min_eq_left hl).symm
  · have hx : se_fin M e = se_E := by
      unfold se_fin
      rw [if_neg c]
    rw [hx, Nat.min_eq_right]
    rw [se_svE]
    exact Nat.mul_le_mul h1 (Nat.pow_le_pow_right (by decide) (by omega))
theorem se_tkTimes {s Z : Nat} (hs : s < 2) (hZ : Z ≤ se_E) : se_tk (fn_X2_timesPower (lN (s * 2 ^ 63 + Z)) ((5 : Int32))) s (min (32 * se_sv Z) (se_sv se_E)) := by
  have h9 := se_E63 hZ
  have hm := se_mlt h9
  have hE : se_E = 9218868437227405312 := rfl
  have z1 := se_z (a := Z) (by omega)
  have hlE : se_sv Z ≤ se_sv se_E := (se_svLe h9 (by omega)).mpr hZ
  unfold fn_X2_timesPower
  rw [se_sizeV hs h9]
  by_cases c0 : Z = 0
  · rw [if_pos (z1.mpr c0), c0]
    exact se_tkId (Nat.zero_le _) (by rw [se_sv0]; omega)
  · rw [if_neg (mt z1.mp c0)]
    by_cases c : Z = se_E
    · rw [if_neg (fun q => (se_endV hs hZ).mp q c)]
      refine se_tkId hZ ?_
      rw [c] at hlE ⊢
      omega
    · have hp1 : -1074 ≤ se_pw Z := by unfold se_pw; omega
      have hp2 : se_pw Z ≤ 972 := by unfold se_pw; omega
      have hph : se_pw Z + 1074 = ((se_h Z - 1 : Nat) : Int) := by unfold se_pw se_h; omega
      rw [if_pos ((se_endV hs hZ).mpr c), se_factor hs h9, se_powV hs h9, show jimax ((-2200 : Int32)) (jimin ((2200 : Int32)) ((5 : Int32))) = se_i 5 from by decide, se_i_add]
      have hm0 : 0 < se_m Z := by
        unfold se_m
        split <;> omega
      obtain ⟨d, hd, h1, h2⟩ := se_norm hm0 hm
      rw [se_near2 hd h1 h2 (by omega) (by omega), se_joinV hs h9 (se_E63 (se_finLe h1 h2))]
      refine ⟨_, se_finLe h1 h2, rfl, ?_⟩
      by_cases g : -1074 ≤ se_pw Z + 5 - d
      · refine se_finSv h1 h2 g ?_
        unfold se_sv
        rw [show (32 : Nat) = 2 ^ 5 from rfl, Nat.mul_assoc, ← Nat.pow_add, show d + (se_pw Z + 5 - d + 1074).toNat = 5 + (se_h Z - 1) by omega, Nat.pow_add, Nat.mul_left_comm]
      · have hZ0 : Z / 2 ^ 52 = 0 := by
          refine Classical.byContradiction (fun q => ?_)
          have a := se_hm q
          have : d = 0 := by
            refine Classical.byContradiction (fun z => ?_)
            have b : 2 ^ 1 ≤ 2 ^ d := Nat.pow_le_pow_right (by decide) (by omega)
            have b2 := Nat.mul_le_mul a b
            omega
          omega
        have hpz : se_pw Z = -1074 := by unfold se_pw; omega
        have hsv : se_sv Z = se_m Z := by unfold se_sv; rw [show se_h Z - 1 = 0 by unfold se_h; omega, Nat.pow_zero, Nat.mul_one]
        obtain ⟨k, hk⟩ : ∃ k, d = k + 5 := ⟨d - 5, by omega⟩
        have hk1 : 1 ≤ k := by omega
        have e1 : se_m Z * 2 ^ d = se_m Z * 32 * 2 ^ k := by rw [hk, Nat.pow_add, Nat.mul_assoc]; congr 1; omega
        have e2 : se_fin (se_m Z * 2 ^ d) (se_pw Z + 5 - d) = se_m Z * 32 := by
          unfold se_fin
          rw [if_pos (by omega), if_pos (by omega), if_pos (by omega), show (-1074 - (se_pw Z + 5 - (d : Int))).toNat = k by omega, e1]
          unfold se_half
          rw [Nat.mul_mod_left, Nat.mul_div_cancel _ (se_p2 k), if_neg (by omega), if_neg (by have := se_p2 (k - 1); omega)]
        rw [e2, hsv]
        have hlt : se_m Z * 32 < 2 ^ 52 := by
          rw [e1] at h2
          have b : 2 ^ 1 ≤ 2 ^ k := Nat.pow_le_pow_right (by decide) hk1
          have b2 := Nat.mul_le_mul_left (se_m Z * 32) b
          omega
        have e3 : se_sv (se_m Z * 32) = se_m Z * 32 := se_svSmall hlt
        have e4 : se_sv (se_m Z * 32) ≤ se_sv se_E := (se_svLe (by omega) (by omega)).mpr (by omega)
        rw [e3] at e4 ⊢
        omega
theorem se_moTimes {s r Z Y : Nat} (hs : s < 2) (hr : r < 2) (hZ : Z ≤ se_E) (hY : Y ≤ se_E) (hl : se_le s Z r Y) : lg_cmp (fn_X0_rungIn (fn_X2_timesPower (lN (s * 2 ^ 63 + Z)) 5)) (fn_X0_rungIn (fn_X2_timesPower (lN (r * 2 ^ 63 + Y)) 5)) ≤ (0 : Int32) := by
  refine se_monoTk hs hr (se_tkTimes hs hZ) (se_tkTimes hr hY) hl (fun a b c => ?_) (fun a b c => ?_)
  · have := (se_svLe (se_E63 hZ) (se_E63 hY)).mpr c; omega
  · have := (se_svLe (se_E63 hY) (se_E63 hZ)).mpr c; omega
/-! round: the nearest whole number, of two the greater one, within 64 digits -/
def se_rdUp (x : Nat) : Nat := (2 * x + se_U) / (2 * se_U)
def se_rdDn (x : Nat) : Nat := (2 * x + (se_U - 1)) / (2 * se_U)
theorem se_rdUpIs (x : Nat) : se_rdUp x = x / se_U + (if se_U ≤ 2 * (x % se_U) then 1 else 0) := by
  have hU := se_Upos
  have hl := Nat.mod_lt x hU
  have e := se_x x
  obtain ⟨q, hq⟩ : ∃ q, q = x / se_U * se_U := ⟨_, rfl⟩
  have e2 : x / se_U * (2 * se_U) = 2 * q := by rw [hq, Nat.mul_left_comm]
  unfold se_rdUp
  split
  · refine Nat.div_eq_of_lt_le ?_ ?_
    · rw [Nat.add_mul, e2]; omega
    · rw [Nat.add_mul, Nat.add_mul, e2]; omega
  · refine Nat.div_eq_of_lt_le ?_ ?_
    · rw [Nat.add_zero, e2]; omega
    · rw [Nat.add_zero, Nat.add_mul, e2]; omega
theorem se_rdDnIs (x : Nat) : se_rdDn x = x / se_U + (if se_U < 2 * (x % se_U) then 1 else 0) := by
  have hU := se_Upos
  have hl := Nat.mod_lt x hU
  have e := se_x x
  obtain ⟨q, hq⟩ : ∃ q, q = x / se_U * se_U := ⟨_, rfl⟩
  have e2 : x / se_U * (2 * se_U) = 2 * q := by rw [hq, Nat.mul_left_comm]
  unfold se_rdDn
  split
  · refine Nat.div_eq_of_lt_le ?_ ?_
    · rw [Nat.add_mul, e2]; omega
    · rw [Nat.add_mul, Nat.add_mul, e2]; omega
  · refine Nat.div_eq_of_lt_le ?_ ?_
    · rw [Nat.add_zero, e2]; omega
    · rw [Nat.add_zero, Nat.add_mul, e2]; omega
theorem se_rdUpMono {x y : Nat} (h : x ≤ y) : se_rdUp x ≤ se_rdUp y := Nat.div_le_div_right (by omega)
theorem se_rdDnMono {x y : Nat} (h : x ≤ y) : se_rdDn x ≤ se_rdDn y := Nat.div_le_div_right (by omega)
theorem se_ahead {Z : Nat} (hZ : Z < 2 ^ 63) (hh : Z / 2 ^ 52 ≤ 1085) : se_sv Z / se_U < 2 ^ 63 - 1 ∧ (¬ Z / 2 ^ 52 < 1075 → jlshl (lN (se_m Z)) (se_i (se_pw Z)) = lN (se_sv Z / se_U)) := by
  have hm := se_mlt hZ
  by_cases c : Z / 2 ^ 52 < 1075
  · refine ⟨?_, fun z => absurd c z⟩
    rw [← (se_WU hZ c).1]
    have := Nat.div_le_self (se_m Z) (2 ^ se_k Z)
    omega
  · obtain ⟨k, hk⟩ : ∃ k, k = Z / 2 ^ 52 - 1075 := ⟨_, rfl⟩
    have e : se_sv Z / se_U = se_m Z * 2 ^ k := by
      have : se_sv Z = se_m Z * 2 ^ k * se_U := by
        unfold se_sv se_U
        rw [Nat.mul_assoc, ← Nat.pow_add, show k + 1074 = se_h Z - 1 by unfold se_h; omega]
      rw [this, Nat.mul_div_cancel _ se_Upos]
    rw [e]
    refine ⟨?_, fun _ => ?_⟩
    · have b : 2 ^ k ≤ 2 ^ 10 := Nat.pow_le_pow_right (by decide) (by omega)
      have b2 : se_m Z * 2 ^ k ≤ (2 ^ 53 - 1) * 2 ^ 10 := Nat.mul_le_mul (by omega) b
      omega
    · rw [show se_pw Z = ((k : Nat) : Int) by unfold se_pw; omega, ← se_i_nat, se_shl _ _ (by omega)]
theorem se_cutSv {s Z : Nat} (hs : s < 2) (hZ : Z ≤ se_E) : fn_X5_cutFrom (lN (s * 2 ^ 63 + Z)) = (if Z / 2 ^ 52 ≤ 1085 then se_l (if s = 0 then ((se_sv Z / se_U : Nat) : Int) else - ((se_sv Z / se_U : Nat) : Int)) else if s = 0 then (9223372036854775807 : Int64) else (-9223372036854775808 : Int64)) := by
  have h9 := se_E63 hZ
  have hsd : ∀ x : Nat, se_sd s (lN x) = se_l (if s = 0 then ((x : Nat) : Int) else - ((x : Nat) : Int)) := fun x => by
    unfold se_sd
    rcases se_s2 hs with rfl | rfl
    · rw [if_pos (show nI 0 = 0 from rfl), if_pos rfl, se_l_nat]
    · rw [if_neg (show ¬ nI 1 = 0 from by decide), if_neg (by decide), se_l_nat, se_l_neg]
  rw [se_cutV hs hZ]
  by_cases a : Z / 2 ^ 52 ≤ 1085
  · rw [if_pos a, if_pos a]
    by_cases b : Z / 2 ^ 52 < 1075
    · rw [if_pos b, (se_WU h9 b).1, hsd]
    · rw [if_neg b, (se_ahead h9 a).2 b, hsd]
  · rw [if_neg a, if_neg a]
    rcases se_s2 hs with rfl | rfl
    · rw [if_pos (show nI 0 = 0 from rfl), if_pos rfl]
    · rw [if_neg (show ¬ nI 1 = 0 from by decide), if_neg (by decide)]
theorem se_roundSv {s Z : Nat} (hs : s < 2) (hZ : Z ≤ se_E) : fn_X5_roundFrom (lN (s * 2 ^ 63 + Z)) = se_l (if Z / 2 ^ 52 ≤ 1085 then (if s = 0 then ((se_rdUp (se_sv Z) : Nat) : Int) else - ((se_rdDn (se_sv Z) : Nat) : Int)) else if s = 0 then 9223372036854775807 else -9223372036854775808) := by
  have h9 := se_E63 hZ
  have hm := se_mlt h9
  have hk := se_k60 Z
  have p1 := se_p60 hk
  have p5 : se_m Z % 2 ^ se_k Z < 2 ^ se_k Z := Nat.mod_lt _ (se_p2 _)
  have hU := se_Upos
  unfold fn_X5_roundFrom
  rw [se_kV hs h9, se_restV hs h9, se_downV hs h9]
  by_cases c : Z / 2 ^ 52 < 1075
  · have hk1 : 1 ≤ se_k Z := by unfold se_k; omega
    have p3 : 2 ^ (se_k Z - 1) < 2 ^ se_k Z := Nat.pow_lt_pow_right (by decide) (by omega)
    obtain ⟨e, -, g2, g3⟩ := se_WU h9 c
    have c1 := se_nlt (a := se_m Z % 2 ^ se_k Z) (b := 2 ^ (se_k Z - 1)) (by omega) (by omega)
    have c2 := se_nle (a := se_m Z % 2 ^ se_k Z) (b := 2 ^ (se_k Z - 1)) (by omega) (by omega)
    rw [if_neg (nI_ne0 hk1 (by omega)), se_1shl' _ hk1 hk, se_cutSv hs hZ, if_pos (show Z / 2 ^ 52 ≤ 1085 by omega), if_pos (show Z / 2 ^ 52 ≤ 1085 by omega), show (1 : Int64) = se_l 1 from rfl, se_l_add, se_l_sub, se_rdUpIs, se_rdDnIs]
    rcases se_s2 hs with rfl | rfl
    · rw [if_pos (show nI 0 = 0 from rfl), if_pos rfl, if_pos rfl]
      by_cases d : se_m Z % 2 ^ se_k Z < 2 ^ (se_k Z - 1)
      · have := g2.mp d
        rw [if_pos (c1.mpr d), if_neg (show ¬ se_U ≤ 2 * (se_sv Z % se_U) by omega), Nat.add_zero]
      · have := mt g2.mpr d
        rw [if_neg (mt c1.mp d), if_pos (show se_U ≤ 2 * (se_sv Z % se_U) by omega), Int.natCast_add]
        rfl
    · rw [if_neg (show ¬ nI 1 = 0 from by decide), if_neg (show ¬ (1 : Nat) = 0 by decide), if_neg (show ¬ (1 : Nat) = 0 by decide)]
      by_cases d : se_m Z % 2 ^ se_k Z ≤ 2 ^ (se_k Z - 1)
      · have hd : ¬ se_U < 2 * (se_sv Z % se_U) := by
          rcases Nat.lt_or_eq_of_le d with q | q
          · have := g2.mp q; omega
          · have := g3.mp q; omega
        rw [if_pos (c2.mpr d), if_neg hd, Nat.add_zero]
      · have a1 := mt g2.mpr (show ¬ se_m Z % 2 ^ se_k Z < 2 ^ (se_k Z - 1) by omega)
        have a2 := mt g3.mpr (show ¬ se_m Z % 2 ^ se_k Z = 2 ^ (se_k Z - 1) by omega)
        rw [if_neg (mt c2.mp d), if_pos (show se_U < 2 * (se_sv Z % se_U) by omega), Int.natCast_add, Int.neg_add]
        rfl
  · have hk0 : se_k Z = 0 := by unfold se_k; omega
    have z := se_WU2 c
    rw [if_pos (by rw [hk0]; rfl), se_cutSv hs hZ, se_rdUpIs, se_rdDnIs, z, if_neg (show ¬ se_U ≤ 2 * 0 by omega), if_neg (show ¬ se_U < 2 * 0 by omega), Nat.add_zero]
    by_cases a : Z / 2 ^ 52 ≤ 1085
    · rw [if_pos a, if_pos a]
    · rw [if_neg a, if_neg a]
      rcases se_s2 hs with rfl | rfl
      · rw [if_pos rfl, if_pos rfl]; first | rfl | decide
      · rw [if_neg (show ¬ (1 : Nat) = 0 by decide), if_neg (show ¬ (1 : Nat) = 0 by decide)]; first | rfl | decide
theorem se_rdB {Z : Nat} (hZ : Z < 2 ^ 63) (hh : Z / 2 ^ 52 ≤ 1085) : se_rdUp (se_sv Z) ≤ 2 ^ 63 - 1 ∧ se_rdDn (se_sv Z) ≤ 2 ^ 63 - 1 := by
  have := (se_ahead hZ hh).1
  rw [se_rdUpIs, se_rdDnIs]
  constructor <;> split <;> omega
theorem se_moRound {s r Z Y : Nat} (hs : s < 2) (hr : r < 2) (hZ : Z ≤ se_E) (hY : Y ≤ se_E) (hl : se_le s Z r Y) : lg_cmp (fn_X5_roundFrom (lN (s * 2 ^ 63 + Z))) (fn_X5_roundFrom (lN (r * 2 ^ 63 + Y))) ≤ (0 : Int32) := by
  have h8 := se_E63 hZ
  have h9 := se_E63 hY
  rw [se_roundSv hs hZ, se_roundSv hr hY]
  have bZ := se_rdB h8
  have bY := se_rdB h9
  have m0 : Z ≤ Y → se_rdUp (se_sv Z) ≤ se_rdUp (se_sv Y) := fun q => se_rdUpMono ((se_svLe h8 h9).mpr q)
  have m1 : Y ≤ Z → se_rdDn (se_sv Y) ≤ se_rdDn (se_sv Z) := fun q => se_rdDnMono ((se_svLe h9 h8).mpr q)
  generalize se_rdUp (se_sv Z) = a at bZ m0 ⊢
  generalize se_rdUp (se_sv Y) = b at bY m0 ⊢
  generalize se_rdDn (se_sv Z) = a' at bZ m1 ⊢
  generalize se_rdDn (se_sv Y) = b' at bY m1 ⊢
  have key : ∀ p q : Int, -9223372036854775808 ≤ p → p ≤ 9223372036854775807 → -9223372036854775808 ≤ q → q ≤ 9223372036854775807 → p ≤ q → lg_cmp (se_l p) (se_l q) ≤ (0 : Int32) := fun p q w1 w2 w3 w4 w5 => (se_cle w1 (by omega) w3 (by omega)).mpr w5
  refine key _ _ ?_ ?_ ?_ ?_ ?_
  · by_cases c : Z / 2 ^ 52 ≤ 1085
    · have := bZ c
      rw [if_pos c]; split <;> omega
    · rw [if_neg c]; split <;> omega
  · by_cases c : Z / 2 ^ 52 ≤ 1085
    · have := bZ c
      rw [if_pos c]; split <;> omega
    · rw [if_neg c]; split <;> omega
  · by_cases c : Y / 2 ^ 52 ≤ 1085
    · have := bY c
      rw [if_pos c]; split <;> omega
    · rw [if_neg c]; split <;> omega
  · by_cases c : Y / 2 ^ 52 ≤ 1085
    · have := bY c
      rw [if_pos c]; split <;> omega
    · rw [if_neg c]; split <;> omega
  · rcases hl with ⟨rfl, rfl, hl⟩ | ⟨rfl, rfl, hl⟩ | ⟨rfl, rfl⟩ <;> (repeat' split) <;> omega
/-! the four checks of one number -/
theorem se_tkEq {V W : Int64} {s x : Nat} (h : se_tk V s x) (h2 : se_tk W s x) : V = W := by
  obtain ⟨X, hX, rfl, e⟩ := h
  obtain ⟨Y, hY, rfl, e2⟩ := h2
  rw [se_svEq (se_E63 hX) (se_E63 hY) (e.trans e2.symm)]
theorem se_tkNe {V W : Int64} {s x y : Nat} (hs : s < 2) (h : se_tk V s x) (h2 : se_tk W s y) (hn : x ≠ y) : V ≠ W := by
  obtain ⟨X, hX, rfl, e⟩ := h
  obtain ⟨Y, hY, rfl, e2⟩ := h2
  intro q
  have h8 := se_E63 hX
  have h9 := se_E63 hY
  rw [se_inj (by omega) (by omega)] at q
  have : X = Y := by omega
  rw [this] at e
  exact hn (e.symm.trans e2)
theorem se_tkTurn {W : Int64} {s x : Nat} (hs : s < 2) (h : se_tk W s x) : se_tk (fn_X0_turned W) (1 - s) x := by
  obtain ⟨X, hX, rfl, e⟩ := h
  exact ⟨X, hX, se_turnV hs (se_E63 hX), e⟩
theorem se_turn2 (W : Int64) : fn_X0_turned (fn_X0_turned W) = W := by
  unfold fn_X0_turned
  rw [Int64.xor_assoc, Int64.xor_self, Int64.xor_zero]
theorem se_okWholes {s Z : Nat} (hs : s < 2) (hZ : Z ≤ se_E) : fn_X1_areWholesRight (lN (s * 2 ^ 63 + Z)) = 1 := by
  have h9 := se_E63 hZ
  have tF := se_tkFloor hs hZ
  have tC := se_tkCeil hs hZ
  have tF' := se_tkTurn (by omega) (se_tkFloor (s := 1 - s) (by omega) hZ)
  have tC' := se_tkTurn (by omega) (se_tkCeil (s := 1 - s) (by omega) hZ)
  have e1 : fn_X4_floorFrom (lN (s * 2 ^ 63 + Z)) = fn_X0_turned (fn_X4_ceilFrom (lN ((1 - s) * 2 ^ 63 + Z))) := by
    rcases se_s2 hs with rfl | rfl
    · exact se_tkEq tF tC'
    · exact se_tkEq tF tC'
  have e2 : fn_X4_ceilFrom (lN (s * 2 ^ 63 + Z)) = fn_X0_turned (fn_X4_floorFrom (lN ((1 - s) * 2 ^ 63 + Z))) := by
    rcases se_s2 hs with rfl | rfl
    · exact se_tkEq tC tF'
    · exact se_tkEq tC tF'
  have b0 := se_rB (s := s) hZ
  have g1 : ¬ (0 : Int32) < lg_cmp (fn_X0_rungIn (fn_X4_floorFrom (lN (s * 2 ^ 63 + Z)))) (fn_X0_rungIn (lN (s * 2 ^ 63 + Z))) := by
    obtain ⟨X, hX, q1, q2⟩ := se_rungTk hs tF
    have hX9 := se_E63 hX
    have b1 := se_rB (s := s) hX
    rw [q2, se_rungL hs hZ, se_cgt (by omega) (by omega) (by omega) (by omega)]
    rcases se_s2 hs with rfl | rfl
    · rw [if_pos rfl] at q1
      have := (se_svLe hX9 h9).mp (by rw [q1]; exact se_dnLe _)
      rw [se_rg0, se_rg0]; omega
    · rw [if_neg (by decide)] at q1
      have := (se_svLe h9 hX9).mp (by rw [q1]; exact se_upGe _)
      rw [se_rg1, se_rg1]; omega
  have g2 : ¬ lg_cmp (fn_X0_rungIn (fn_X4_ceilFrom (lN (s * 2 ^ 63 + Z)))) (fn_X0_rungIn (lN (s * 2 ^ 63 + Z))) < (0 : Int32) := by
    obtain ⟨X, hX, q1, q2⟩ := se_rungTk hs tC
    have hX9 := se_E63 hX
    have b1 := se_rB (s := s) hX
    rw [q2, se_rungL hs hZ, se_clt (by omega) (by omega) (by omega) (by omega)]
    rcases se_s2 hs with rfl | rfl
    · rw [if_pos rfl] at q1
      have := (se_svLe h9 hX9).mp (by rw [q1]; exact se_upGe _)
      rw [se_rg0, se_rg0]; omega
    · rw [if_neg (by decide)] at q1
      have := (se_svLe hX9 h9).mp (by rw [q1]; exact se_dnLe _)
      rw [se_rg1, se_rg1]; omega
  unfold fn_X1_areWholesRight
  rw [if_neg g1, if_neg g2, se_turnV hs h9, if_pos ((lg_cmp_eq _ _).mpr e1), if_pos ((lg_cmp_eq _ _).mpr e2)]
theorem se_okRint {s Z : Nat} (hs : s < 2) (hZ : Z ≤ se_E) : fn_X1_isRintRight (lN (s * 2 ^ 63 + Z)) = 1 := by
  have h9 := se_E63 hZ
  have hm := se_mlt h9
  have hk := se_k60 Z
  have hU := se_Upos
  by_cases c : se_m Z % 2 ^ se_k Z = 0
  · have eF : fn_X4_floorFrom (lN (s * 2 ^ 63 + Z)) = lN (s * 2 ^ 63 + Z) := by
      unfold fn_X4_floorFrom
      rw [se_restV hs h9, if_pos ((se_zr h9).mpr c)]
    have eC : fn_X4_ceilFrom (lN (s * 2 ^ 63 + Z)) = lN (s * 2 ^ 63 + Z) := by
      unfold fn_X4_ceilFrom
      rw [se_restV hs h9, if_pos ((se_zr h9).mpr c)]
    have eR : fn_X4_rintFrom (lN (s * 2 ^ 63 + Z)) = lN (s * 2 ^ 63 + Z) := by
      unfold fn_X4_rintFrom
      rw [se_restV hs h9, if_pos ((se_zr h9).mpr c)]
    have e0 : lg_cmp (lN (s * 2 ^ 63 + Z)) (lN (s * 2 ^ 63 + Z)) = 0 := (lg_cmp_eq _ _).mpr rfl
    unfold fn_X1_isRintRight
    rw [eF, eC, eR, if_pos e0, if_pos e0]
  · have hh := se_kh c
    have hk1 : 1 ≤ se_k Z := Nat.pos_of_ne_zero (fun z => c (by rw [z, Nat.pow_zero, Nat.mod_one]))
    obtain ⟨-, g1, g2, g3⟩ := se_WU h9 hh
    have hf : ¬ se_sv Z % se_U = 0 := mt g1.mpr c
    have hl := Nat.mod_lt (se_sv Z) hU
    have p1 := se_p60 hk
    have p5 : se_m Z % 2 ^ se_k Z < 2 ^ se_k Z := Nat.mod_lt _ (se_p2 _)
    have p6 : 2 ^ se_k Z = 2 * 2 ^ (se_k Z - 1) := by rw [Nat.mul_comm, ← Nat.pow_succ, show se_k Z - 1 + 1 = se_k Z by omega]
    have tF := se_tkFloor hs hZ
    have tC := se_tkCeil hs hZ
    have tR := se_tkRint hs hZ
    have hne : se_dn (se_sv Z) ≠ se_up (se_sv Z) := by
      rw [se_up1 _ hf, Nat.add_mul]
      unfold se_dn
      omega
    have er : fn_X0_restIn (lN (s * 2 ^ 63 + Z)) = lN (se_m Z % 2 ^ se_k Z) := se_restV hs h9
    have eo : jlshl ((1 : Int64)) (fn_X0_behindIn (lN (s * 2 ^ 63 + Z))) - lN (se_m Z % 2 ^ se_k Z) = lN (2 ^ se_k Z - se_m Z % 2 ^ se_k Z) := by
      rw [se_kV hs h9, se_1shl _ hk, lN_sub (by omega)]
    unfold fn_X1_isRintRight
    rw [er, eo, se_downV hs h9]
    have k1 := se_ngt (a := se_m Z % 2 ^ se_k Z) (b := 2 ^ se_k Z - se_m Z % 2 ^ se_k Z) (by omega) (by omega)
    have k2 := se_ngt (a := 2 ^ se_k Z - se_m Z % 2 ^ se_k Z) (b := se_m Z % 2 ^ se_k Z) (by omega) (by omega)
    generalize lg_cmp (lN (se_m Z % 2 ^ se_k Z)) (lN (2 ^ se_k Z - se_m Z % 2 ^ se_k Z)) = K1 at k1 ⊢
    generalize lg_cmp (lN (2 ^ se_k Z - se_m Z % 2 ^ se_k Z)) (lN (se_m Z % 2 ^ se_k Z)) = K2 at k2 ⊢
    have w1 := lg_cmp_eq (fn_X4_rintFrom (lN (s * 2 ^ 63 + Z))) (fn_X4_floorFrom (lN (s * 2 ^ 63 + Z)))
    have w2 := lg_cmp_eq (fn_X4_rintFrom (lN (s * 2 ^ 63 + Z))) (fn_X4_ceilFrom (lN (s * 2 ^ 63 + Z)))
    have w3 := lg_cmp_eq (fn_X4_floorFrom (lN (s * 2 ^ 63 + Z))) (fn_X4_ceilFrom (lN (s * 2 ^ 63 + Z)))
    generalize lg_cmp (fn_X4_rintFrom (lN (s * 2 ^ 63 + Z))) (fn_X4_floorFrom (lN (s * 2 ^ 63 + Z))) = RF at w1 ⊢
    generalize lg_cmp (fn_X4_rintFrom (lN (s * 2 ^ 63 + Z))) (fn_X4_ceilFrom (lN (s * 2 ^ 63 + Z))) = RC at w2 ⊢
    generalize lg_cmp (fn_X4_floorFrom (lN (s * 2 ^ 63 + Z))) (fn_X4_ceilFrom (lN (s * 2 ^ 63 + Z))) = FC at w3 ⊢
    generalize fn_X4_rintFrom (lN (s * 2 ^ 63 + Z)) = R at tR w1 w2
    generalize fn_X4_floorFrom (lN (s * 2 ^ 63 + Z)) = F at tF w1 w3
    generalize fn_X4_ceilFrom (lN (s * 2 ^ 63 + Z)) = C at tC w2 w3
    have rdn : se_hv (se_sv Z) = 0 → se_rd (se_sv Z) = se_dn (se_sv Z) := fun z => by
      unfold se_rd se_dn
      rw [z, Nat.add_zero]
    have rup : se_hv (se_sv Z) = 1 → se_rd (se_sv Z) = se_up (se_sv Z) := fun z => by
      unfold se_rd
      rw [z, se_up1 _ hf]
    have hv0 : se_hv (se_sv Z) = 0 → ¬ (0 : Int32) < K1 := fun z => by
      unfold se_hv at z
      have : ¬ se_U < 2 * (se_sv Z % se_U) := fun y => by rw [if_pos y] at z; omega
      rw [k1]
      intro q
      by_cases a : se_m Z % 2 ^ se_k Z < 2 ^ (se_k Z - 1)
      · omega
      · by_cases b : se_m Z % 2 ^ se_k Z = 2 ^ (se_k Z - 1)
        · omega
        · have a1 := mt g2.mpr a
          have b1 := mt g3.mpr b
          omega
    have hv1 : se_hv (se_sv Z) = 1 → ¬ (0 : Int32) < K2 := fun z => by
      unfold se_hv at z
      have : ¬ 2 * (se_sv Z % se_U) < se_U := fun y => by
        rw [if_neg (by omega), if_neg (by omega)] at z
        omega
      rw [k2]
      intro q
      have a1 := mt g2.mp this
      omega
    have hb := se_hv1 (se_sv Z)
    have hv : se_hv (se_sv Z) = 0 ∨ se_hv (se_sv Z) = 1 := by omega
    rcases se_s2 hs with rfl | rfl
    · rw [if_pos rfl] at tF tC
      have hFC : ¬ FC = 0 := mt w3.mp (se_tkNe (by omega) tF tC hne)
      have d0 : nI 0 = 0 := rfl
      rcases hv with z | z
      · rw [rdn z] at tR
        have hRF : RF = 0 := w1.mpr (se_tkEq tR tF)
        have hK := hv0 z
        simp only [if_pos hRF, if_neg hFC, if_pos d0, if_neg hK]
      · rw [rup z] at tR
        have hRC : RC = 0 := w2.mpr (se_tkEq tR tC)
        have hRF : ¬ RF = 0 := mt w1.mp (se_tkNe (by omega) tR tF (fun q => hne q.symm))
        have hK := hv1 z
        simp only [if_neg hRF, if_pos hRC, if_neg hFC, if_pos d0, if_neg hK]
    · rw [if_neg (by decide)] at tF tC
      have hFC : ¬ FC = 0 := mt w3.mp (se_tkNe (by omega) tF tC (fun q => hne q.symm))
      have d0 : ¬ nI 1 = 0 := by decide
      rcases hv with z | z
      · rw [rdn z] at tR
        have hRC : RC = 0 := w2.mpr (se_tkEq tR tC)
        have hRF : ¬ RF = 0 := mt w1.mp (se_tkNe (by omega) tR tF hne)
        have hK := hv0 z
        simp only [if_neg hRF, if_pos hRC, if_neg hFC, if_neg d0, if_neg hK]
      · rw [rup z] at tR
        have hRF : RF = 0 := w1.mpr (se_tkEq tR tF)
        have hRC : ¬ RC = 0 := mt w2.mp (se_tkNe (by omega) tR tC (fun q => hne q.symm))
        have hK := hv1 z
        simp only [if_pos hRF, if_neg hRC, if_neg hFC, if_neg d0, if_neg hK]
theorem se_okNext {s Z : Nat} (hs : s < 2) (hZ : Z ≤ se_E) : fn_X1_areNextRight (lN (s * 2 ^ 63 + Z)) = 1 := by
  have h9 := se_E63 hZ
  have hE : se_E = 9218868437227405312 := rfl
  have hR : se_R (lN (s * 2 ^ 63 + Z)) (nI s, lN Z) := ⟨s, Z, hs, hZ, rfl, rfl⟩
  have e1 : fn_X4_downFrom (lN (s * 2 ^ 63 + Z)) = fn_X0_turned (fn_X4_upFrom (fn_X0_turned (lN (s * 2 ^ 63 + Z)))) := se_downUp hR
  have e2 : fn_X4_upFrom (lN (s * 2 ^ 63 + Z)) = fn_X0_turned (fn_X4_downFrom (fn_X0_turned (lN (s * 2 ^ 63 + Z)))) := by
    rw [se_downUp hR.turn, se_turn2, se_turn2]
  have c1 := (lg_cmp_eq _ _).mpr e1
  have c2 := (lg_cmp_eq _ _).mpr e2
  unfold fn_X1_areNextRight
  by_cases c : Z = se_E
  · rw [if_neg (fun q => (se_endV hs hZ).mp q c), if_pos c2, if_pos c1]
  · have b0 : -9218868437227405312 < se_rg s Z ∧ se_rg s Z < 9218868437227405312 := by
      unfold se_rg
      split <;> omega
    have g1 : fn_X0_rungIn (fn_X4_downFrom (fn_X4_upFrom (lN (s * 2 ^ 63 + Z)))) = fn_X0_rungIn (lN (s * 2 ^ 63 + Z)) := by
      obtain ⟨r, X, hr, hX, q1, q2⟩ := se_upRung hs hZ
      obtain ⟨t, Y, ht, hY, q3, q4⟩ := se_dnRung hr hX
      rw [q1, q3, se_rungL ht hY, se_rungL hs hZ, q4, q2]
      refine congrArg se_l ?_
      omega
    have g2 : fn_X0_rungIn (fn_X4_upFrom (fn_X4_downFrom (lN (s * 2 ^ 63 + Z)))) = fn_X0_rungIn (lN (s * 2 ^ 63 + Z)) := by
      obtain ⟨r, X, hr, hX, q1, q2⟩ := se_dnRung hs hZ
      obtain ⟨t, Y, ht, hY, q3, q4⟩ := se_upRung hr hX
      rw [q1, q3, se_rungL ht hY, se_rungL hs hZ, q4, q2]
      refine congrArg se_l ?_
      omega
    rw [if_pos ((se_endV hs hZ).mpr c), if_pos ((lg_cmp_eq _ _).mpr g1), if_pos ((lg_cmp_eq _ _).mpr g2), if_pos c2, if_pos c1]
theorem se_orI {a b : Nat} (k : Nat) (ha : a * 2 ^ k + b < 2 ^ 32) (hb : b < 2 ^ k) : nI (a * 2 ^ k) ||| nI b = nI (a * 2 ^ k + b) := by
  have e : ∀ x : Nat, x < 2 ^ 32 → (nI x).toBitVec.toNat = x := fun x hx => by
    show (BitVec.ofNat 32 x).toNat = x
    rw [BitVec.toNat_ofNat, Nat.mod_eq_of_lt hx]
  refine Int32.toBitVec_inj.mp (BitVec.eq_of_toNat_eq ?_)
  rw [Int32.toBitVec_or, BitVec.toNat_or, e _ (by omega), e _ (by omega), e _ ha, Nat.mul_comm a, Nat.two_pow_add_eq_or_of_lt hb]
theorem se_shI31 : ∀ s : Fin 2, (nI s.val) <<< (((31 : Int32)) &&& 31) = nI (s.val * 2 ^ 31) := by decide
theorem se_shI31' {s : Nat} (hs : s < 2) : (nI s) <<< (((31 : Int32)) &&& 31) = nI (s * 2 ^ 31) := se_shI31 ⟨s, hs⟩
theorem se_shI20 (a : Nat) (ha : a < 2 ^ 11) : (nI a) <<< (((20 : Int32)) &&& 31) = nI (a * 2 ^ 20) := by
  refine Int32.toBitVec_inj.mp (BitVec.eq_of_toNat_eq ?_)
  rw [Int32.toBitVec_shiftLeft, show ((20 : Int32) &&& 31).toBitVec.smod 32 = 20#32 from by decide, BitVec.shiftLeft_eq', BitVec.toNat_shiftLeft, show (20#32).toNat = 20 from rfl]
  show (BitVec.ofNat 32 a).toNat <<< 20 % 2 ^ 32 = (BitVec.ofNat 32 (a * 2 ^ 20)).toNat
  rw [BitVec.toNat_ofNat, BitVec.toNat_ofNat, Nat.mod_eq_of_lt (show a < 2 ^ 32 by omega), Nat.shiftLeft_eq]
theorem se_okParts {s Z : Nat} (hs : s < 2) (hZ : Z ≤ se_E) : fn_X1_arePartsRight (lN (s * 2 ^ 63 + Z)) = 1 := by
  have h9 := se_E63 hZ
  have d0 : fn_X0_digitsIn (lN (s * 2 ^ 63 + Z)) ((0 : Int32)) = nI s := by
    unfold fn_X0_digitsIn
    rw [if_pos (show (0 : Int32) = 0 from rfl), se_downV hs h9]
    rcases se_s2 hs with rfl | rfl <;> rfl
  have d1 : fn_X0_digitsIn (lN (s * 2 ^ 63 + Z)) ((1 : Int32)) = nI (Z / 2 ^ 52) := by
    unfold fn_X0_digitsIn
    rw [if_neg (show ¬ (1 : Int32) = 0 from by decide), if_pos (show (1 : Int32) = 1 from rfl), se_high (by omega), (se_parts hs h9).2.2]
  have d2 : fn_X0_digitsIn (lN (s * 2 ^ 63 + Z)) ((2 : Int32)) = nI (Z % 2 ^ 52 / 2 ^ 32) := by
    unfold fn_X0_digitsIn
    rw [if_neg (show ¬ (2 : Int32) = 0 from by decide), if_neg (show ¬ (2 : Int32) = 1 from by decide), if_pos (show (2 : Int32) = 2 from rfl), se_low (by omega), (se_parts hs h9).2.1, show (32 : Int32) = nI 32 from rfl, se_shr 32 (by omega) (by omega), lN_i]
  have d3 : fn_X0_digitsIn (lN (s * 2 ^ 63 + Z)) ((3 : Int32)) = nI (Z % 2 ^ 52) := by
    unfold fn_X0_digitsIn
    rw [if_neg (show ¬ (3 : Int32) = 0 from by decide), if_neg (show ¬ (3 : Int32) = 1 from by decide), if_neg (show ¬ (3 : Int32) = 2 from by decide), se_low (by omega), (se_parts hs h9).2.1, lN_i]
  have hh : Z / 2 ^ 52 < 2 ^ 11 := by omega
  have eu : ((nI s) <<< (((31 : Int32)) &&& 31) ||| (nI (Z / 2 ^ 52)) <<< (((20 : Int32)) &&& 31)) ||| nI (Z % 2 ^ 52 / 2 ^ 32) = nI (s * 2 ^ 31 + Z / 2 ^ 52 * 2 ^ 20 + Z % 2 ^ 52 / 2 ^ 32) := by
    rw [se_shI31' hs, se_shI20 _ hh]
    rw [se_orI 31 (by omega) (by omega), show s * 2 ^ 31 + Z / 2 ^ 52 * 2 ^ 20 = (s * 2 ^ 11 + Z / 2 ^ 52) * 2 ^ 20 by omega, se_orI 20 (by omega) (by omega)]
  have e1 : (jlshl (((((fn_X0_digitsIn (lN (s * 2 ^ 63 + Z)) ((0 : Int32))) <<< (((31 : Int32)) &&& 31)) ||| ((fn_X0_digitsIn (lN (s * 2 ^ 63 + Z)) ((1 : Int32))) <<< (((20 : Int32)) &&& 31))) ||| (fn_X0_digitsIn (lN (s * 2 ^ 63 + Z)) ((2 : Int32)))).toInt64) ((32 : Int32))) ||| (((fn_X0_digitsIn (lN (s * 2 ^ 63 + Z)) ((3 : Int32))).toInt64) &&& ((4294967295 : Int64))) = lN (s * 2 ^ 63 + Z) := by
    rw [d0, d1, d2, d3, eu, se_V6]
    refine congrArg lN ?_
    unfold se_T
    show (BitVec.ofNat 32 (s * 2 ^ 31 + Z / 2 ^ 52 * 2 ^ 20 + Z % 2 ^ 52 / 2 ^ 32)).toNat * 2 ^ 32 + (BitVec.ofNat 32 (Z % 2 ^ 52)).toNat = _
    rw [BitVec.toNat_ofNat, BitVec.toNat_ofNat]
    omega
  have e2 : fn_X0_joined (fn_X0_sizeIn (lN (s * 2 ^ 63 + Z))) (lN (s * 2 ^ 63 + Z)) = lN (s * 2 ^ 63 + Z) := by
    rw [se_sizeV hs h9, se_joinV hs h9 h9]
  have e3 : fn_X4_stepFrom (fn_X0_turned (lN (s * 2 ^ 63 + Z))) = fn_X4_stepFrom (lN (s * 2 ^ 63 + Z)) := by
    have hs1 : 1 - s < 2 := by omega
    rw [se_turnV hs h9]
    unfold fn_X4_stepFrom
    rw [se_powV hs1 h9, se_powV hs h9]
    by_cases c : Z = se_E
    · rw [if_neg (fun q => (se_endV hs hZ).mp q c), if_neg (fun q => (se_endV hs1 hZ).mp q c)]
    · rw [if_pos ((se_endV hs hZ).mpr c), if_pos ((se_endV hs1 hZ).mpr c)]
  unfold fn_X1_arePartsRight
  rw [e1, e2, e3, if_pos ((lg_cmp_eq _ _).mpr rfl), if_pos ((lg_cmp_eq _ _).mpr rfl), if_pos ((lg_cmp_eq _ _).mpr rfl)]
/-! what isSound asks, of good numbers -/
def se_good (V : Int64) : Prop := ∃ s Z : Nat, s < 2 ∧ Z ≤ se_E ∧ V = lN (s * 2 ^ 63 + Z)
theorem se_R.good {V : Int64} {v : Int32 × Int64} (h : se_R V v) : se_good V := by
  obtain ⟨s, Z, hs, hZ, e, -⟩ := h
  exact ⟨s, Z, hs, hZ, e⟩
theorem ky_SI.good {u : ky_BS} {w : ky_MV} (h : ky_SI u w) : ∀ j, j < 6 → se_good (u.1 j) := fun j hj => (h.1 j hj).good
/-- the rows of taken things -/
def ky_row (V : Int64) (k : Nat) : Int64 := ([fn_X0_rungIn (fn_X4_floorFrom V), fn_X0_rungIn (fn_X4_ceilFrom V), fn_X0_rungIn (fn_X4_rintFrom V), fn_X0_rungIn (fn_X4_upFrom V), fn_X0_rungIn (fn_X4_downFrom V), fn_X0_rungIn (fn_X4_signFrom V), fn_X0_rungIn (fn_X2_timesPower V ((5 : Int32))), fn_X5_roundFrom V] : List Int64).getD k 0
theorem se_rowMono {V W : Int64} (hV : se_good V) (hW : se_good W) (h : ¬ (0 : Int32) < lg_cmp (fn_X0_rankIn V) (fn_X0_rankIn W)) : ∀ k, k < 8 → lg_cmp (ky_row V k) (ky_row W k) ≤ (0 : Int32) := by
  obtain ⟨s, Z, hs, hZ, rfl⟩ := hV
  obtain ⟨r, Y, hr, hY, rfl⟩ := hW
  have hl := se_rankLe hs hr hZ hY h
  intro k hk
  match k, hk with
  | 0, _ => exact se_moFloor hs hr hZ hY hl
  | 1, _ => exact se_moCeil hs hr hZ hY hl
  | 2, _ => exact se_moRint hs hr hZ hY hl
  | 3, _ => exact se_moUp hs hr hZ hY hl
  | 4, _ => exact se_moDown hs hr hZ hY hl
  | 5, _ => exact se_moSign hs hr hZ hY hl
  | 6, _ => exact se_moTimes hs hr hZ hY hl
  | 7, _ => exact se_moRound hs hr hZ hY hl
  | k + 8, hk => omega
theorem se_in6 {a : Int32} (h : vp_in a 6) : a.toNatClampNeg < 6 := by
  obtain ⟨h1, h2⟩ := vp_in_iff.mp h
  show a.toInt.toNat < 6
  omega
theorem ky_twoQ {f : Nat → Int64} {g : Nat → Nat → Int64} (hv : ∀ j, j < 6 → se_good (f j)) (hI : ∀ c9 k8, c9 < 6 → k8 < 8 → g k8 c9 = ky_row (f c9) k8) {a b : Int32} (ha : vp_in a 6) (hb : vp_in b 6) : ¬ (0 : Int32) < (lg_cmp (fn_X0_rankIn (f a.toNatClampNeg)) (fn_X0_rankIn (f b.toNatClampNeg))) → ∀ k, k < 8 → lg_cmp ((g k) a.toNatClampNeg) ((g k) b.toNatClampNeg) ≤ (0 : Int32) := by
  intro h k hk
  rw [hI _ k (se_in6 ha) hk, hI _ k (se_in6 hb) hk]
  exact se_rowMono (hv _ (se_in6 ha)) (hv _ (se_in6 hb)) h k hk
theorem se_rankInj {V W : Int64} (hV : se_good V) (hW : se_good W) (h : fn_X0_rankIn V = fn_X0_rankIn W) : V = W := by
  obtain ⟨s, Z, hs, hZ, e1⟩ := hV
  obtain ⟨r, Y, hr, hY, e2⟩ := hW
  have h1 : se_R V (nI s, lN Z) := ⟨s, Z, hs, hZ, e1, rfl⟩
  have h2 : se_R W (nI r, lN Y) := ⟨r, Y, hr, hY, e2, rfl⟩
  rw [se_rankR h1, se_rankR h2] at h
  exact (se_placeInj h1 h2 h).1
theorem ky_twoB {f : Nat → Int64} (hv : ∀ j, j < 6 → se_good (f j)) {a b : Int32} (ha : vp_in a 6) (hb : vp_in b 6) : (fn_X0_lastOf (f a.toNatClampNeg) (f b.toNatClampNeg) = f a.toNatClampNeg ∧ fn_X0_firstOf (f a.toNatClampNeg) (f b.toNatClampNeg) = f b.toNatClampNeg) ∨ (fn_X0_lastOf (f a.toNatClampNeg) (f b.toNatClampNeg) = f b.toNatClampNeg ∧ fn_X0_firstOf (f a.toNatClampNeg) (f b.toNatClampNeg) = f a.toNatClampNeg) := by
  have hi := se_rankInj (hv _ (se_in6 ha)) (hv _ (se_in6 hb))
  generalize f a.toNatClampNeg = V at hi ⊢
  generalize f b.toNatClampNeg = W at hi ⊢
  unfold fn_X0_lastOf fn_X0_firstOf
  by_cases c1 : lg_cmp (fn_X0_rankIn V) (fn_X0_rankIn W) < (0 : Int32)
  · rw [if_pos c1, if_neg (by rw [Int32.lt_iff_toInt_lt] at c1 ⊢; omega)]
    exact Or.inr ⟨rfl, rfl⟩
  · rw [if_neg c1]
    by_cases c2 : (0 : Int32) < lg_cmp (fn_X0_rankIn V) (fn_X0_rankIn W)
    · rw [if_pos c2]
      exact Or.inl ⟨rfl, rfl⟩
    · rw [if_neg c2]
      refine Or.inl ⟨rfl, hi ?_⟩
      rw [lg_cmp_lt, Int64.lt_iff_toInt_lt] at c1
      rw [lg_cmp_gt, Int64.lt_iff_toInt_lt] at c2
      exact Int64.toInt_inj.mp (by omega)
theorem ky_tA {L F a b : Int64} (h : (L = a ∧ F = b) ∨ (L = b ∧ F = a)) (z : ¬ lg_cmp L a = (0 : Int32)) : lg_cmp L b = (0 : Int32) := by
  rcases h with ⟨h1, -⟩ | ⟨h1, -⟩
  · exact absurd ((lg_cmp_eq _ _).mpr h1) z
  · exact (lg_cmp_eq _ _).mpr h1
theorem ky_tB {L F a b : Int64} (h : (L = a ∧ F = b) ∨ (L = b ∧ F = a)) (z : ¬ lg_cmp F b = (0 : Int32)) : lg_cmp L b = (0 : Int32) := by
  rcases h with ⟨-, h1⟩ | ⟨h1, -⟩
  · exact absurd ((lg_cmp_eq _ _).mpr h1) z
  · exact (lg_cmp_eq _ _).mpr h1
theorem ky_tC {L F a b : Int64} (h : (L = a ∧ F = b) ∨ (L = b ∧ F = a)) (z : ¬ lg_cmp L a = (0 : Int32)) : lg_cmp F a = (0 : Int32) := by
  rcases h with ⟨h1, -⟩ | ⟨-, h1⟩
  · exact absurd ((lg_cmp_eq _ _).mpr h1) z
  · exact (lg_cmp_eq _ _).mpr h1
theorem ky_tD {L F a b : Int64} (h : (L = a ∧ F = b) ∨ (L = b ∧ F = a)) (z : ¬ lg_cmp F b = (0 : Int32)) : lg_cmp F a = (0 : Int32) := by
  rcases h with ⟨-, h1⟩ | ⟨-, h1⟩
  · exact absurd ((lg_cmp_eq _ _).mpr h1) z
  · exact (lg_cmp_eq _ _).mpr h1
theorem ky_okW {f : Nat → Int64} (hv : ∀ j, j < 6 → se_good (f j)) {k : Nat} (h : ¬ 6 ≤ k) : ¬ fn_X1_areWholesRight ((f) (nI (k)).toNatClampNeg) = (0 : Int32) := by
  rw [nI_clamp (by omega)]
  obtain ⟨s, Z, hs, hZ, e⟩ := hv k (by omega)
  rw [e, se_okWholes hs hZ]
  decide
theorem ky_okR {f : Nat → Int64} (hv : ∀ j, j < 6 → se_good (f j)) {k : Nat} (h : ¬ 6 ≤ k) : ¬ fn_X1_isRintRight ((f) (nI (k)).toNatClampNeg) = (0 : Int32) := by
  rw [nI_clamp (by omega)]
  obtain ⟨s, Z, hs, hZ, e⟩ := hv k (by omega)
  rw [e, se_okRint hs hZ]
  decide
theorem ky_okN {f : Nat → Int64} (hv : ∀ j, j < 6 → se_good (f j)) {k : Nat} (h : ¬ 6 ≤ k) : ¬ fn_X1_areNextRight ((f) (nI (k)).toNatClampNeg) = (0 : Int32) := by
  rw [nI_clamp (by omega)]
  obtain ⟨s, Z, hs, hZ, e⟩ := hv k (by omega)
  rw [e, se_okNext hs hZ]
  decide
theorem ky_okP {f : Nat → Int64} (hv : ∀ j, j < 6 → se_good (f j)) {k : Nat} (h : ¬ 6 ≤ k) : ¬ fn_X1_arePartsRight ((f) (nI (k)).toNatClampNeg) = (0 : Int32) := by
  rw [nI_clamp (by omega)]
  obtain ⟨s, Z, hs, hZ, e⟩ := hv k (by omega)
  rw [e, se_okParts hs hZ]
  decide
