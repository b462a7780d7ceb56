/-! round: the nearest whole number, of two the greater one, within 64 digits -/
def se_rdUp (x : Nat) : Nat := (2 * x + se_U) / (2 * se_U)
def se_rdDn (x : Nat) : Nat := (2 * x + (se_U - 1)) / (2 * se_U)
theorem se_rdUpIs (x : Nat) : se_rdUp x = x / se_U + (if se_U ≤ 2 * (x % se_U) then 1 else 0) := by
  have hU := se_Upos
  have hl := Nat.mod_lt x hU
  have e := se_x x
  obtain ⟨q, hq⟩ : ∃ q, q = x / se_U * se_U := ⟨_, rfl⟩
  have e2 : x / se_U * (2 * se_U) = 2 * q := by rw [hq, Nat.mul_left_comm]
  unfold se_rdUp
  split
  · refine Nat.div_eq_of_lt_le ?_ ?_
    · rw [Nat.add_mul, e2]; omega
    · rw [Nat.add_mul, Nat.add_mul, e2]; omega
  · refine Nat.div_eq_of_lt_le ?_ ?_
    · rw [Nat.add_zero, e2]; omega
    · rw [Nat.add_zero, Nat.add_mul, e2]; omega
theorem se_rdDnIs (x : Nat) : se_rdDn x = x / se_U + (if se_U < 2 * (x % se_U) then 1 else 0) := by
  have hU := se_Upos
  have hl := Nat.mod_lt x hU
  have e := se_x x
  obtain ⟨q, hq⟩ : ∃ q, q = x / se_U * se_U := ⟨_, rfl⟩
  have e2 : x / se_U * (2 * se_U) = 2 * q := by rw [hq, Nat.mul_left_comm]
  unfold se_rdDn
  split
  · refine Nat.div_eq_of_lt_le ?_ ?_
    · rw [Nat.add_mul, e2]; omega
    · rw [Nat.add_mul, Nat.add_mul, e2]; omega
  · refine Nat.div_eq_of_lt_le ?_ ?_
    · rw [Nat.add_zero, e2]; omega
    · rw [Nat.add_zero, Nat.add_mul, e2]; omega
theorem se_rdUpMono {x y : Nat} (h : x ≤ y) : se_rdUp x ≤ se_rdUp y := Nat.div_le_div_right (by omega)
theorem se_rdDnMono {x y : Nat} (h : x ≤ y) : se_rdDn x ≤ se_rdDn y := Nat.div_le_div_right (by omega)
theorem se_ahead {Z : Nat} (hZ : Z < 2 ^ 63) (hh : Z / 2 ^ 52 ≤ 1085) : se_sv Z / se_U < 2 ^ 63 - 1 ∧ (¬ Z / 2 ^ 52 < 1075 → jlshl (lN (se_m Z)) (se_i (se_pw Z)) = lN (se_sv Z / se_U)) := by
  have hm := se_mlt hZ
  by_cases c : Z / 2 ^ 52 < 1075
  · refine ⟨?_, fun z => absurd c z⟩
    rw [← (se_WU hZ c).1]
    have := Nat.div_le_self (se_m Z) (2 ^ se_k Z)
    omega
  · obtain ⟨k, hk⟩ : ∃ k, k = Z / 2 ^ 52 - 1075 := ⟨_, rfl⟩
    have e : se_sv Z / se_U = se_m Z * 2 ^ k := by
      have : se_sv Z = se_m Z * 2 ^ k * se_U := by
        unfold se_sv se_U
        rw [Nat.mul_assoc, ← Nat.pow_add, show k + 1074 = se_h Z - 1 by unfold se_h; omega]
      rw [this, Nat.mul_div_cancel _ se_Upos]
    rw [e]
    refine ⟨?_, fun _ => ?_⟩
    · have b : 2 ^ k ≤ 2 ^ 10 := Nat.pow_le_pow_right (by decide) (by omega)
      have b2 : se_m Z * 2 ^ k ≤ (2 ^ 53 - 1) * 2 ^ 10 := Nat.mul_le_mul (by omega) b
      omega
    · rw [show se_pw Z = ((k : Nat) : Int) by unfold se_pw; omega, ← se_i_nat, se_shl _ _ (by omega)]
theorem se_cutSv {s Z : Nat} (hs : s < 2) (hZ : Z ≤ se_E) : fn_X5_cutFrom (lN (s * 2 ^ 63 + Z)) = (if Z / 2 ^ 52 ≤ 1085 then se_l (if s = 0 then ((se_sv Z / se_U : Nat) : Int) else - ((se_sv Z / se_U : Nat) : Int)) else if s = 0 then (9223372036854775807 : Int64) else (-9223372036854775808 : Int64)) := by
  have h9 := se_E63 hZ
  have hsd : ∀ x : Nat, se_sd s (lN x) = se_l (if s = 0 then ((x : Nat) : Int) else - ((x : Nat) : Int)) := fun x => by
    unfold se_sd
    rcases se_s2 hs with rfl | rfl
    · rw [if_pos (show nI 0 = 0 from rfl), if_pos rfl, se_l_nat]
    · rw [if_neg (show ¬ nI 1 = 0 from by decide), if_neg (by decide), se_l_nat, se_l_neg]
  rw [se_cutV hs hZ]
  by_cases a : Z / 2 ^ 52 ≤ 1085
  · rw [if_pos a, if_pos a]
    by_cases b : Z / 2 ^ 52 < 1075
    · rw [if_pos b, (se_WU h9 b).1, hsd]
    · rw [if_neg b, (se_ahead h9 a).2 b, hsd]
  · rw [if_neg a, if_neg a]
    rcases se_s2 hs with rfl | rfl
    · rw [if_pos (show nI 0 = 0 from rfl), if_pos rfl]
    · rw [if_neg (show ¬ nI 1 = 0 from by decide), if_neg (by decide)]
theorem se_roundSv {s Z : Nat} (hs : s < 2) (hZ : Z ≤ se_E) : fn_X5_roundFrom (lN (s * 2 ^ 63 + Z)) = se_l (if Z / 2 ^ 52 ≤ 1085 then (if s = 0 then ((se_rdUp (se_sv Z) : Nat) : Int) else - ((se_rdDn (se_sv Z) : Nat) : Int)) else if s = 0 then 9223372036854775807 else -9223372036854775808) := by
  have h9 := se_E63 hZ
  have hm := se_mlt h9
  have hk := se_k60 Z
  have p1 := se_p60 hk
  have p5 : se_m Z % 2 ^ se_k Z < 2 ^ se_k Z := Nat.mod_lt _ (se_p2 _)
  have hU := se_Upos
  unfold fn_X5_roundFrom
  rw [se_kV hs h9, se_restV hs h9, se_downV hs h9]
  by_cases c : Z / 2 ^ 52 < 1075
  · have hk1 : 1 ≤ se_k Z := by unfold se_k; omega
    have p3 : 2 ^ (se_k Z - 1) < 2 ^ se_k Z := Nat.pow_lt_pow_right (by decide) (by omega)
    obtain ⟨e, -, g2, g3⟩ := se_WU h9 c
    have c1 := se_nlt (a := se_m Z % 2 ^ se_k Z) (b := 2 ^ (se_k Z - 1)) (by omega) (by omega)
    have c2 := se_nle (a := se_m Z % 2 ^ se_k Z) (b := 2 ^ (se_k Z - 1)) (by omega) (by omega)
    rw [if_neg (nI_ne0 hk1 (by omega)), se_1shl' _ hk1 hk, se_cutSv hs hZ, if_pos (show Z / 2 ^ 52 ≤ 1085 by omega), if_pos (show Z / 2 ^ 52 ≤ 1085 by omega), show (1 : Int64) = se_l 1 from rfl, se_l_add, se_l_sub, se_rdUpIs, se_rdDnIs]
    rcases se_s2 hs with rfl | rfl
    · rw [if_pos (show nI 0 = 0 from rfl), if_pos rfl, if_pos rfl]
      by_cases d : se_m Z % 2 ^ se_k Z < 2 ^ (se_k Z - 1)
      · have := g2.mp d
        rw [if_pos (c1.mpr d), if_neg (show ¬ se_U ≤ 2 * (se_sv Z % se_U) by omega), Nat.add_zero]
      · have := mt g2.mpr d
        rw [if_neg (mt c1.mp d), if_pos (show se_U ≤ 2 * (se_sv Z % se_U) by omega), Int.natCast_add]
        rfl
    · rw [if_neg (show ¬ nI 1 = 0 from by decide), if_neg (show ¬ (1 : Nat) = 0 by decide), if_neg (show ¬ (1 : Nat) = 0 by decide)]
      by_cases d : se_m Z % 2 ^ se_k Z ≤ 2 ^ (se_k Z - 1)
      · have hd : ¬ se_U < 2 * (se_sv Z % se_U) := by
          rcases Nat.lt_or_eq_of_le d with q | q
          · have := g2.mp q; omega
          · have := g3.mp q; omega
        rw [if_pos (c2.mpr d), if_neg hd, Nat.add_zero]
      · have a1 := mt g2.mpr (show ¬ se_m Z % 2 ^ se_k Z < 2 ^ (se_k Z - 1) by omega)
        have a2 := mt g3.mpr (show ¬ se_m Z % 2 ^ se_k Z = 2 ^ (se_k Z - 1) by omega)
        rw [if_neg (mt c2.mp d), if_pos (show se_U < 2 * (se_sv Z % se_U) by omega), Int.natCast_add, Int.neg_add]
        rfl
  · have hk0 : se_k Z = 0 := by unfold se_k; omega
    have z := se_WU2 c
    rw [if_pos (by rw [hk0]; rfl), se_cutSv hs hZ, se_rdUpIs, se_rdDnIs, z, if_neg (show ¬ se_U ≤ 2 * 0 by omega), if_neg (show ¬ se_U < 2 * 0 by omega), Nat.add_zero]
    by_cases a : Z / 2 ^ 52 ≤ 1085
    · rw [if_pos a, if_pos a]
    · rw [if_neg a, if_neg a]
      rcases se_s2 hs with rfl | rfl
      · rw [if_pos rfl, if_pos rfl]; first | rfl | decide
      · rw [if_neg (show ¬ (1 : Nat) = 0 by decide), if_neg (show ¬ (1 : Nat) = 0 by decide)]; first | rfl | decide
theorem se_rdB {Z : Nat} (hZ : Z < 2 ^ 63) (hh : Z / 2 ^ 52 ≤ 1085) : se_rdUp (se_sv Z) ≤ 2 ^ 63 - 1 ∧ se_rdDn (se_sv Z) ≤ 2 ^ 63 - 1 := by
  have := (se_ahead hZ hh).1
  rw [se_rdUpIs, se_rdDnIs]
  constructor <;> split <;> omega
def se_rv (s Z : Nat) : Int := if Z / 2 ^ 52 ≤ 1085 then (if s = 0 then ((se_rdUp (se_sv Z) : Nat) : Int) else - ((se_rdDn (se_sv Z) : Nat) : Int)) else if s = 0 then 9223372036854775807 else -9223372036854775808
theorem se_rvUp {Z : Nat} (c : Z / 2 ^ 52 ≤ 1085) : se_rv 0 Z = ((se_rdUp (se_sv Z) : Nat) : Int) := by
  unfold se_rv
  rw [if_pos c, if_pos rfl]
theorem se_rvDn {Z : Nat} (c : Z / 2 ^ 52 ≤ 1085) : se_rv 1 Z = - ((se_rdDn (se_sv Z) : Nat) : Int) := by
  unfold se_rv
  rw [if_pos c, if_neg (by decide)]
theorem se_rvMax {Z : Nat} (c : ¬ Z / 2 ^ 52 ≤ 1085) : se_rv 0 Z = 9223372036854775807 := by
  unfold se_rv
  rw [if_neg c, if_pos rfl]
theorem se_rvMin {Z : Nat} (c : ¬ Z / 2 ^ 52 ≤ 1085) : se_rv 1 Z = -9223372036854775808 := by
  unfold se_rv
  rw [if_neg c, if_neg (by decide)]
theorem se_rvB {s Z : Nat} (hs : s < 2) (hZ : Z < 2 ^ 63) : -9223372036854775808 ≤ se_rv s Z ∧ se_rv s Z ≤ 9223372036854775807 := by
  by_cases c : Z / 2 ^ 52 ≤ 1085
  · obtain ⟨b1, b2⟩ := se_rdB hZ c
    rcases se_s2 hs with rfl | rfl
    · rw [se_rvUp c]; omega
    · rw [se_rvDn c]; omega
  · rcases se_s2 hs with rfl | rfl
    · rw [se_rvMax c]; omega
    · rw [se_rvMin c]; omega
theorem se_rvMono {s r Z Y : Nat} (hs : s < 2) (hr : r < 2) (hZ : Z < 2 ^ 63) (hY : Y < 2 ^ 63) (hl : se_le s Z r Y) : se_rv s Z ≤ se_rv r Y := by
  have bZ := se_rvB hs hZ
  have bY := se_rvB hr hY
  rcases hl with ⟨rfl, rfl, hl⟩ | ⟨rfl, rfl, hl⟩ | ⟨rfl, rfl⟩
  · by_cases cY : Y / 2 ^ 52 ≤ 1085
    · have cZ : Z / 2 ^ 52 ≤ 1085 := by omega
      have m0 : se_rdUp (se_sv Z) ≤ se_rdUp (se_sv Y) := se_rdUpMono ((se_svLe hZ hY).mpr hl)
      rw [se_rvUp cZ, se_rvUp cY]
      exact Int.ofNat_le.mpr m0
    · rw [se_rvMax cY]
      exact bZ.2
  · by_cases cZ : Z / 2 ^ 52 ≤ 1085
    · have cY : Y / 2 ^ 52 ≤ 1085 := by omega
      have m1 : se_rdDn (se_sv Y) ≤ se_rdDn (se_sv Z) := se_rdDnMono ((se_svLe hY hZ).mpr hl)
      rw [se_rvDn cZ, se_rvDn cY]
      exact Int.neg_le_neg (Int.ofNat_le.mpr m1)
    · rw [se_rvMin cZ]
      exact bY.1
  · by_cases cY : Y / 2 ^ 52 ≤ 1085
    · by_cases cZ : Z / 2 ^ 52 ≤ 1085
      · rw [se_rvDn cZ, se_rvUp cY]
        generalize se_rdDn (se_sv Z) = a
        generalize se_rdUp (se_sv Y) = b
        clear bZ bY cZ cY
        omega
      · rw [se_rvMin cZ]
        exact bY.1
    · rw [se_rvMax cY]
      exact bZ.2
theorem se_moRound {s r Z Y : Nat} (hs : s < 2) (hr : r < 2) (hZ : Z ≤ se_E) (hY : Y ≤ se_E) (hl : se_le s Z r Y) : lg_cmp (fn_X5_roundFrom (lN (s * 2 ^ 63 + Z))) (fn_X5_roundFrom (lN (r * 2 ^ 63 + Y))) ≤ (0 : Int32) := by
  have h8 := se_E63 hZ
  have h9 := se_E63 hY
  have e1 : fn_X5_roundFrom (lN (s * 2 ^ 63 + Z)) = se_l (se_rv s Z) := se_roundSv hs hZ
  have e2 : fn_X5_roundFrom (lN (r * 2 ^ 63 + Y)) = se_l (se_rv r Y) := se_roundSv hr hY
  have m := se_rvMono hs hr h8 h9 hl
  have bZ := se_rvB hs h8
  have bY := se_rvB hr h9
  rw [e1, e2]
  generalize se_rv s Z = p at m bZ ⊢
  generalize se_rv r Y = q at m bY ⊢
  exact (se_cle bZ.1 (by omega) bY.1 (by omega)).mpr m
