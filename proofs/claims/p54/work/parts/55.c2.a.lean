/-! sizes by their values: the size times 2^1074 -/
def se_U : Nat := 2 ^ 1074
theorem se_Upos : 0 < se_U := se_p2 _
theorem se_Ud {d : Nat} (h : d ≤ 1074) : se_U = 2 ^ d * 2 ^ (1074 - d) := by
  unfold se_U
  rw [← Nat.pow_add, show d + (1074 - d) = 1074 by omega]
theorem se_2p {K : Nat} (h : 1 ≤ K) : 2 * 2 ^ (K - 1) = 2 ^ K := by
  obtain ⟨k, rfl⟩ : ∃ k, K = k + 1 := ⟨K - 1, by omega⟩
  rw [Nat.add_sub_cancel, Nat.pow_succ, Nat.mul_comm]
def se_h (Z : Nat) : Nat := max (Z / 2 ^ 52) 1
def se_sv (Z : Nat) : Nat := se_m Z * 2 ^ (se_h Z - 1)
theorem se_svMono {X Y : Nat} (h : X < Y) (hY : Y < 2 ^ 63) : se_sv X < se_sv Y := by
  have mX := se_mlt (show X < 2 ^ 63 by omega)
  unfold se_sv
  by_cases c : se_h X = se_h Y
  · rw [c]
    refine Nat.mul_lt_mul_of_pos_right ?_ (se_p2 _)
    unfold se_h at c
    unfold se_m
    by_cases a : X / 2 ^ 52 = 0
    · by_cases b : Y / 2 ^ 52 = 0
      · rw [if_pos a, if_pos b]; omega
      · rw [if_pos a, if_neg b]; omega
    · have b : ¬ Y / 2 ^ 52 = 0 := by omega
      rw [if_neg a, if_neg b]; omega
  · have hh : se_h X + 1 ≤ se_h Y := by unfold se_h at c ⊢; omega
    have h1 : 1 ≤ se_h X := by unfold se_h; omega
    have hm := se_hm (Z := Y) (by unfold se_h at hh; omega)
    have e1 : se_m X * 2 ^ (se_h X - 1) < 2 ^ 53 * 2 ^ (se_h X - 1) := Nat.mul_lt_mul_of_pos_right mX (se_p2 _)
    have e2 : (2 : Nat) ^ 53 * 2 ^ (se_h X - 1) = 2 ^ 52 * 2 ^ (se_h X) := by
      rw [← Nat.pow_add, ← Nat.pow_add, show 53 + (se_h X - 1) = 52 + se_h X by omega]
    have e3 : 2 ^ (se_h X) ≤ 2 ^ (se_h Y - 1) := Nat.pow_le_pow_right (by decide) (by omega)
    have e4 : 2 ^ 52 * 2 ^ (se_h X) ≤ se_m Y * 2 ^ (se_h Y - 1) := Nat.mul_le_mul hm e3
    omega
theorem se_svLe {X Y : Nat} (hX : X < 2 ^ 63) (hY : Y < 2 ^ 63) : se_sv X ≤ se_sv Y ↔ X ≤ Y := by
  refine ⟨fun h => Nat.le_of_not_lt (fun z => ?_), fun h => ?_⟩
  · have := se_svMono z hX
    omega
  · rcases Nat.lt_or_eq_of_le h with z | z
    · exact Nat.le_of_lt (se_svMono z hY)
    · rw [z]; exact Nat.le_refl _
theorem se_svEq {X Y : Nat} (hX : X < 2 ^ 63) (hY : Y < 2 ^ 63) (h : se_sv X = se_sv Y) : X = Y :=
  Nat.le_antisymm ((se_svLe hX hY).mp (Nat.le_of_eq h)) ((se_svLe hY hX).mp (Nat.le_of_eq h.symm))
theorem se_svSmall {q : Nat} (h : q < 2 ^ 52) : se_sv q = q := by
  unfold se_sv
  rw [show se_h q - 1 = 0 by unfold se_h; omega, Nat.pow_zero, Nat.mul_one]
  unfold se_m
  rw [if_pos (by omega)]
  omega
theorem se_sv0 : se_sv 0 = 0 := by unfold se_sv; rw [show se_m 0 = 0 from rfl, Nat.zero_mul]
/-- a whole number's nearest size has its value -/
theorem se_nearW {w : Nat} (hw : w < 2 ^ 53) : ∃ X, X ≤ se_E ∧ fn_X2_nearestTo (lN w) ((0 : Int32)) = lN X ∧ se_sv X = w * se_U := by
  by_cases h0 : w = 0
  · subst h0
    refine ⟨0, Nat.zero_le _, ?_, by rw [se_sv0, Nat.zero_mul]⟩
    unfold fn_X2_nearestTo
    rw [if_pos ((se_z (by decide)).mpr rfl)]
    rfl
  · obtain ⟨d, hd, h1, h2⟩ := se_norm (by omega) hw
    refine ⟨_, se_finLe h1 h2, se_near2 (e := 0) hd h1 h2 (by omega) (by omega), ?_⟩
    unfold se_fin
    rw [if_pos (by omega), if_neg (by omega)]
    obtain ⟨M, hM⟩ : ∃ M, M = w * 2 ^ d := ⟨_, rfl⟩
    rw [← hM] at h1 h2 ⊢
    obtain ⟨X, hX⟩ : ∃ X, X = (0 - (d : Int) + 1075).toNat * 2 ^ 52 + (M - 2 ^ 52) := ⟨_, rfl⟩
    rw [← hX]
    have q1 : X / 2 ^ 52 = 1075 - d := by omega
    have q2 : X % 2 ^ 52 + 2 ^ 52 = M := by omega
    unfold se_sv se_h se_m
    rw [if_neg (show ¬ X / 2 ^ 52 = 0 by omega), q1, q2, hM, show max (1075 - d) 1 - 1 = 1074 - d by omega, Nat.mul_assoc, ← se_Ud (by omega)]
/-- what is ahead of the point and behind it, by the value -/
theorem se_WU {Z : Nat} (hZ : Z < 2 ^ 63) (hh : Z / 2 ^ 52 < 1075) : se_m Z / 2 ^ se_k Z = se_sv Z / se_U ∧ (se_m Z % 2 ^ se_k Z = 0 ↔ se_sv Z % se_U = 0) ∧ (se_m Z % 2 ^ se_k Z < 2 ^ (se_k Z - 1) ↔ 2 * (se_sv Z % se_U) < se_U) ∧ (se_m Z % 2 ^ se_k Z = 2 ^ (se_k Z - 1) ↔ 2 * (se_sv Z % se_U) = se_U) := by
  have hm := se_mlt hZ
  have h1 : 1 ≤ se_h Z := by unfold se_h; omega
  have h2 : se_h Z ≤ 1074 := by unfold se_h; omega
  obtain ⟨K, hK⟩ : ∃ K, K = 1075 - se_h Z := ⟨_, rfl⟩
  obtain ⟨b, hb⟩ : ∃ b, b = 2 ^ (se_h Z - 1) := ⟨_, rfl⟩
  obtain ⟨c, hc⟩ : ∃ c, c = 2 ^ (K - 1) := ⟨_, rfl⟩
  have hb0 : 0 < b := by rw [hb]; exact se_p2 _
  have hU : se_U = (2 * c) * b := by
    rw [se_Ud (d := K) (by omega), hb, hc, show 1074 - K = se_h Z - 1 by omega, se_2p (K := K) (by omega)]
  have e1 : se_sv Z / se_U = se_m Z / (2 * c) := by unfold se_sv; rw [← hb, hU, Nat.mul_div_mul_right _ _ hb0]
  have e2 : se_sv Z % se_U = se_m Z % (2 * c) * b := by unfold se_sv; rw [← hb, hU, Nat.mul_mod_mul_right]
  obtain ⟨r, hr⟩ : ∃ r, r = se_m Z % (2 * c) := ⟨_, rfl⟩
  have f1 : se_m Z % (2 * c) * b = 0 ↔ se_m Z % (2 * c) = 0 := by
    rw [Nat.mul_eq_zero]; omega
  have f2 : 2 * (se_m Z % (2 * c) * b) < (2 * c) * b ↔ se_m Z % (2 * c) < c := by
    rw [← hr, show 2 * (r * b) = (2 * r) * b by rw [Nat.mul_assoc], Nat.mul_lt_mul_right hb0]; omega
  have f3 : 2 * (se_m Z % (2 * c) * b) = (2 * c) * b ↔ se_m Z % (2 * c) = c := by
    rw [← hr, show 2 * (r * b) = (2 * r) * b by rw [Nat.mul_assoc], Nat.mul_left_inj (by omega)]; omega
  rw [e1, e2, hU, f1, f2, f3]
  have hcK : 2 * c = 2 ^ K := by rw [hc, se_2p (by omega)]
  by_cases k : se_k Z = K
  · rw [k, hcK, hc]
    exact ⟨rfl, Iff.rfl, Iff.rfl, Iff.rfl⟩
  · have hhz : se_h Z = max (Z / 2 ^ 52) 1 := rfl
    have k1 : se_k Z = 60 := by
      unfold se_k at k ⊢
      omega
    have k2 : 60 ≤ K := by
      unfold se_k at k
      omega
    have p1 : 2 ^ 59 ≤ c := by rw [hc]; exact Nat.pow_le_pow_right (by decide) (by omega)
    rw [k1, Nat.mod_eq_of_lt (show se_m Z < 2 ^ 60 by omega), Nat.mod_eq_of_lt (show se_m Z < 2 * c by omega), Nat.div_eq_of_lt (show se_m Z < 2 ^ 60 by omega), Nat.div_eq_of_lt (show se_m Z < 2 * c by omega)]
    refine ⟨rfl, Iff.rfl, ?_, ?_⟩ <;> omega
/-- from 2^52 on there is nothing behind the point -/
theorem se_WU2 {Z : Nat} (hh : ¬ Z / 2 ^ 52 < 1075) : se_sv Z % se_U = 0 := by
  have e : se_sv Z = se_m Z * 2 ^ (se_h Z - 1 - 1074) * se_U := by
    unfold se_sv se_U
    rw [Nat.mul_assoc, ← Nat.pow_add, show se_h Z - 1 - 1074 + 1074 = se_h Z - 1 by unfold se_h; omega]
  rw [e, Nat.mul_mod_left]
theorem se_r0 {Z : Nat} (hZ : Z < 2 ^ 63) : se_m Z % 2 ^ se_k Z = 0 ↔ se_sv Z % se_U = 0 := by
  by_cases c : Z / 2 ^ 52 < 1075
  · exact (se_WU hZ c).2.1
  · rw [show se_k Z = 0 by unfold se_k; omega, Nat.pow_zero, Nat.mod_one]
    exact ⟨fun _ => se_WU2 c, fun _ => rfl⟩
def se_dn (x : Nat) : Nat := x / se_U * se_U
def se_up (x : Nat) : Nat := (x + (se_U - 1)) / se_U * se_U
def se_hv (x : Nat) : Nat := if se_U < 2 * (x % se_U) then 1 else if 2 * (x % se_U) = se_U then (if x / se_U % 2 = 1 then 1 else 0) else 0
def se_rd (x : Nat) : Nat := (x / se_U + se_hv x) * se_U
theorem se_x (x : Nat) : x = x / se_U * se_U + x % se_U := by
  have := Nat.div_add_mod x se_U
  rw [Nat.mul_comm] at this
  exact this.symm
theorem se_upIs (x : Nat) : (x + (se_U - 1)) / se_U = if x % se_U = 0 then x / se_U else x / se_U + 1 := by
  have hU := se_Upos
  have hl := Nat.mod_lt x hU
  have e := se_x x
  by_cases c : x % se_U = 0
  · rw [if_pos c]
    refine Nat.div_eq_of_lt_le ?_ ?_
    · omega
    · rw [Nat.add_mul]; omega
  · rw [if_neg c]
    refine Nat.div_eq_of_lt_le ?_ ?_
    · rw [Nat.add_mul]; omega
    · rw [Nat.add_mul, Nat.add_mul]; omega
theorem se_dnMono {x y : Nat} (h : x ≤ y) : se_dn x ≤ se_dn y := Nat.mul_le_mul_right _ (Nat.div_le_div_right h)
theorem se_upMono {x y : Nat} (h : x ≤ y) : se_up x ≤ se_up y := Nat.mul_le_mul_right _ (Nat.div_le_div_right (by omega))
theorem se_hv1 (x : Nat) : se_hv x ≤ 1 := by
  unfold se_hv
  (repeat' split) <;> omega
theorem se_rdMono {x y : Nat} (h : x ≤ y) : se_rd x ≤ se_rd y := by
  refine Nat.mul_le_mul_right _ ?_
  have a := Nat.div_le_div_right (c := se_U) h
  have b := se_hv1 x
  by_cases c : x / se_U = y / se_U
  · have e1 := se_x x
    have e2 := se_x y
    rw [c] at e1
    have hl : x % se_U ≤ y % se_U := by omega
    unfold se_hv
    rw [c]
    (repeat' split) <;> omega
  · omega
theorem se_dnLe (x : Nat) : se_dn x ≤ x := Nat.div_mul_le_self _ _
theorem se_upGe (x : Nat) : x ≤ se_up x := by
  have e := se_x x
  have hl := Nat.mod_lt x se_Upos
  unfold se_up
  rw [se_upIs]
  by_cases c : x % se_U = 0
  · rw [if_pos c]; omega
  · rw [if_neg c, Nat.add_mul]; omega
theorem se_id (x : Nat) (h : x % se_U = 0) : se_dn x = x ∧ se_up x = x ∧ se_rd x = x := by
  have e := se_x x
  refine ⟨?_, ?_, ?_⟩
  · unfold se_dn; omega
  · unfold se_up; rw [se_upIs, if_pos h]; omega
  · have hU := se_Upos
    have hv : se_hv x = 0 := by
      unfold se_hv
      rw [h]
      (repeat' split) <;> omega
    unfold se_rd
    rw [hv, Nat.add_zero]; omega
theorem se_up1 (x : Nat) (h : ¬ x % se_U = 0) : se_up x = (x / se_U + 1) * se_U := by
  unfold se_up; rw [se_upIs, if_neg h]
/-- what is taken of a cell's long: its size by the value -/
def se_tk (W : Int64) (s x : Nat) : Prop := ∃ X, X ≤ se_E ∧ W = lN (s * 2 ^ 63 + X) ∧ se_sv X = x
