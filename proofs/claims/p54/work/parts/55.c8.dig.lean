/-! the digests: of like boards the same -/
theorem dg_mask : ∀ j, j < 6 → jlshl 1 (nI (2 ^ j)) - 1 = lN (2 ^ (2 ^ j) - 1) := by decide +kernel
theorem dg_sh : ∀ j, j < 6 → ky_sh (j + 2) = nI (2 ^ j) ∧ ¬ ky_sh (j + 2) ≤ 0 := by decide +kernel
theorem dg_m64 : ∀ j, j < 6 → 2 ^ (2 ^ j) - 1 < 2 ^ 64 ∧ 2 ^ j < 64 := by decide +kernel
theorem dg_z0 (p : Int32) : p + nI 0 = p := Int32.add_zero p
theorem dg_od : ∀ (j : Nat), j ≤ 6 → ∀ (t o : Nat) (p : Int32), t < 2 ^ j → o % 2 = 1 → o * 2 ^ t < 2 ^ 63 → ky_od (j + 1) (lN (o * 2 ^ t)) p = (lN o, p + nI t) := by
  intro j
  induction j with
  | zero =>
    intro _ t o p ht ho hM
    have e : t = 0 := by
      have : (2 : Nat) ^ 0 = 1 := rfl
      omega
    subst e
    rw [ky_od0 (n := 0) (by decide), Nat.pow_zero, Nat.mul_one, dg_z0]
  | succ j ih =>
    intro hj t o p ht ho hM
    have hs := dg_sh j (by omega)
    have hm := dg_m64 j (by omega)
    by_cases c : 2 ^ j ≤ t
    · obtain ⟨d, rfl⟩ : ∃ d, t = d + 2 ^ j := ⟨t - 2 ^ j, (Nat.sub_add_cancel c).symm⟩
      have e1 : o * 2 ^ (d + 2 ^ j) = (o * 2 ^ d) * 2 ^ (2 ^ j) := by rw [Nat.pow_add, Nat.mul_assoc]
      have hd : d < 2 ^ j := by
        rw [Nat.pow_succ] at ht
        omega
      have hle : o * 2 ^ d ≤ o * 2 ^ (d + 2 ^ j) := Nat.mul_le_mul_left o (Nat.pow_le_pow_right (by decide) (Nat.le_add_right _ _))
      have h2 : lN (o * 2 ^ (d + 2 ^ j)) &&& (jlshl 1 (ky_sh (j + 2)) - 1) = 0 := by
        rw [hs.1, dg_mask j (by omega), se_and (k := 2 ^ j) (by omega) rfl hm.1, e1, Nat.mul_mod_left]
        rfl
      rw [ky_od1 (n := j + 1) hs.2 h2, hs.1, se_shr (2 ^ j) (by omega) hm.2, e1, Nat.mul_div_cancel _ (Nat.pow_pos (by decide)), ih (by omega) d o _ hd ho (by omega), Int32.add_assoc, nI_add, Nat.add_comm (2 ^ j) d]
    · have h2 : ¬ lN (o * 2 ^ t) &&& (jlshl 1 (ky_sh (j + 2)) - 1) = 0 := by
        rw [hs.1, dg_mask j (by omega), se_and (k := 2 ^ j) (by omega) rfl hm.1]
        intro z
        have z2 : lN (o * 2 ^ t % 2 ^ (2 ^ j)) = lN 0 := z
        have hl : o * 2 ^ t % 2 ^ (2 ^ j) ≤ o * 2 ^ t := Nat.mod_le _ _
        have z3 := (pk_lEQ (by omega) (by decide)).mp z2
        obtain ⟨e, he⟩ : ∃ e, 2 ^ j = e + 1 + t := ⟨2 ^ j - t - 1, by omega⟩
        rw [he, Nat.pow_add, Nat.mul_mod_mul_right] at z3
        have z4 : o % 2 ^ (e + 1) % 2 = o % 2 := Nat.mod_mod_of_dvd o ⟨2 ^ e, by rw [Nat.pow_succ, Nat.mul_comm]⟩
        have z5 : 0 < 2 ^ t := Nat.pow_pos (by decide)
        rcases Nat.mul_eq_zero.mp z3 with z6 | z6
        · rw [z6] at z4
          omega
        · omega
      rw [ky_od2 (n := j + 1) hs.2 h2]
      exact ih (by omega) t o p (by omega) ho hM
theorem dg_part2 : ∀ (n M : Nat), M ≤ n → 1 ≤ M → ∃ t o : Nat, o % 2 = 1 ∧ M = o * 2 ^ t := by
  intro n
  induction n with
  | zero => intro M h1 h2; omega
  | succ n ih =>
    intro M h1 h2
    by_cases c : M % 2 = 1
    · exact ⟨0, M, c, by rw [Nat.pow_zero, Nat.mul_one]⟩
    · obtain ⟨t, o, ho, e⟩ := ih (M / 2) (by omega) (by omega)
      refine ⟨t + 1, o, ho, ?_⟩
      rw [Nat.pow_succ, ← Nat.mul_assoc, ← e]
      omega
theorem dg_lt2 (t : Nat) : t < 2 ^ t := by
  induction t with
  | zero => decide
  | succ t ih => rw [Nat.pow_succ]; omega
theorem dg_md : ∀ (t n o : Nat) (p : Int32), o % 2 = 1 → t < n → md_od n (o * 2 ^ t) p = (o, p + nI t) := by
  intro t
  induction t with
  | zero =>
    intro n o p ho hn
    obtain ⟨m, rfl⟩ : ∃ m, n = m + 1 := ⟨n - 1, by omega⟩
    rw [Nat.pow_zero, Nat.mul_one, md_odO (by omega), dg_z0]
  | succ t ih =>
    intro n o p ho hn
    obtain ⟨m, rfl⟩ : ∃ m, n = m + 1 := ⟨n - 1, by omega⟩
    have e : o * 2 ^ (t + 1) = o * 2 ^ t * 2 := by rw [Nat.pow_succ, Nat.mul_assoc]
    rw [e, md_odE (by omega), Nat.mul_div_cancel _ (by decide), ih m o (p + 1) ho (by omega), Int32.add_assoc, show (1 : Int32) + nI t = nI (1 + t) from nI_add 1 t, Nat.add_comm 1 t]
theorem dg_odd {M : Nat} (h1 : 1 ≤ M) (h2 : M < 2 ^ 53) (p : Int32) : ky_od 7 (lN M) p = (lN (md_od M M p).1, (md_od M M p).2) := by
  obtain ⟨t, o, ho, rfl⟩ := dg_part2 M M (Nat.le_refl _) h1
  have h3 : 2 ^ t ≤ o * 2 ^ t := Nat.le_mul_of_pos_left _ (by omega)
  have h4 : t < 53 := Classical.byContradiction fun z => by
    have := Nat.pow_le_pow_right (n := 2) (by decide) (Nat.not_lt.mp z)
    omega
  have h5 := dg_lt2 t
  rw [dg_od 6 (Nat.le_refl _) t o p (Nat.lt_trans h4 (by decide)) ho (by omega), dg_md t _ o p ho (by omega)]
theorem dg_tl {V : Int64} {v : Int32 × Int64} (h : se_R V v) : ky_tl V = md_tl v := by
  obtain ⟨s, Z, hs, hZ, rfl, rfl⟩ := h
  have h9 := se_E63 hZ
  have z0 := se_z (a := Z) (by omega)
  unfold ky_tl md_tl
  rw [se_downV hs h9, se_sizeV hs h9]
  show (if nI s = (0 : Int32) then 0 else 1) + (if lg_cmp (lN Z) (0 : Int64) = (0 : Int32) then 1 else if fn_X0_isEndlessOne (lN (s * 2 ^ 63 + Z)) = (0 : Int32) then ky_szJ (ky_od 7 (fn_X0_factorIn (lN (s * 2 ^ 63 + Z))) (fn_X0_powerIn (lN (s * 2 ^ 63 + Z)))).1 + 3 + ky_szI (ky_od 7 (fn_X0_factorIn (lN (s * 2 ^ 63 + Z))) (fn_X0_powerIn (lN (s * 2 ^ 63 + Z)))).2 else 1) = (if nI s = (0 : Int32) then 0 else 1) + (if lg_cmp (lN Z) (0 : Int64) = (0 : Int32) then 1 else if fn_X8_isEndless (nI s, lN Z) = (0 : Int32) then ky_szJ (lN (md_R (nI s, lN Z)).1) + 3 + ky_szI (md_R (nI s, lN Z)).2 else 1)
  by_cases c0 : Z = 0
  · rw [if_pos (z0.mpr c0), if_pos (z0.mpr c0)]
  · rw [if_neg (mt z0.mp c0), if_neg (mt z0.mp c0)]
    by_cases cE : Z = se_E
    · rw [if_neg (fun q => (se_endV hs hZ).mp q cE), if_neg (fun q => (se_end8 hZ).mp q cE)]
    · have hm := se_mlt h9
      have hm1 : 1 ≤ se_m Z := by
        unfold se_m
        split <;> omega
      have e : md_R (nI s, lN Z) = md_od (se_m Z) (se_m Z) (se_i (se_pw Z)) := by
        unfold md_R
        rw [se_many h9, se_pow8' h9, pk_lT (by omega), Int.toNat_natCast]
      rw [if_pos ((se_endV hs hZ).mpr cE), if_pos ((se_end8 (s := nI s) hZ).mpr cE), se_factor hs h9, se_powV hs h9, e, dg_odd hm1 hm]
/-! a cell's answers -/
theorem dg_in {k : Nat} (hk : k < 6) : sj_in (nI k) := by
  have e := nI_toInt (n := k) (by omega)
  refine ⟨?_, ?_⟩
  · rw [Int32.le_iff_toInt_le, e]
    show (0 : Int) ≤ (k : Int)
    omega
  · rw [Int32.lt_iff_toInt_lt, e]
    show (k : Int) < 6
    omega
theorem dg_l0 : sj_in (0 : Int32) := ⟨by decide, by decide⟩
theorem dg_l1 : sj_in (1 : Int32) := ⟨by decide, by decide⟩
theorem dg_l2 : sj_in (2 : Int32) := ⟨by decide, by decide⟩
theorem dg_l3 : sj_in (3 : Int32) := ⟨by decide, by decide⟩
theorem dg_l4 : sj_in (4 : Int32) := ⟨by decide, by decide⟩
theorem dg_l5 : sj_in (5 : Int32) := ⟨by decide, by decide⟩
theorem dg_add (a b : Int64) : fn_X6_mixed a b = fn_X9_add a b := rfl
theorem dg_digit {u : ky_BS} {w : ky_MV} (h : ky_SI u w) {a : Int32} (ha : sj_in a) (k : Int32) (h0 : (0 : Int32) ≤ k) (h3 : k ≤ (3 : Int32)) : (fn_X9_digit a k w).1 = fn_X0_digitsIn ((u.1) (a).toNatClampNeg) k := by
  rw [se_digR (h.cell ha) k h0 h3]
  unfold fn_X9_digit
  by_cases c1 : (2 : Int32) ≤ k
  · rw [if_pos c1, if_pos c1]
    by_cases c2 : k = (2 : Int32)
    · rw [if_pos c2, if_pos c2] <;> rfl
    · rw [if_neg c2, if_neg c2] <;> rfl
  · rw [if_neg c1, if_neg c1]
    by_cases c2 : k = (0 : Int32)
    · rw [if_pos c2, if_pos c2] <;> rfl
    · rw [if_neg c2, if_neg c2] <;> rfl
theorem dg_half {u : ky_BS} {w : ky_MV} (h : ky_SI u w) {a : Int32} (ha : sj_in a) (k : Int32) : (fn_X9_part a k w).1 = fn_X6_halfOf (fn_X5_roundFrom ((u.1) (a).toNatClampNeg)) k := by
  rw [se_roundR (h.cell ha)]
  unfold fn_X9_part fn_X6_halfOf
  by_cases c : k = (0 : Int32)
  · rw [if_pos c, if_pos c, se_asr0] <;> rfl
  · rw [if_neg c, if_neg c] <;> rfl
theorem dg_short {u : ky_BS} {w : ky_MV} (h : ky_SI u w) {a : Int32} (ha : sj_in a) : (fn_X9_shortNow a w).1 = fn_X5_shortFrom ((u.1) (a).toNatClampNeg) := by
  rw [se_shortR (h.cell ha)]
  unfold fn_X9_shortNow
  rfl
theorem dg_comp {u : ky_BS} {w : ky_MV} (h : ky_SI u w) {a b : Int32} (ha : sj_in a) (hb : sj_in b) : (fn_X9_comparedNow a b w).1 = fn_X6_orderOf ((u.1) (a).toNatClampNeg) ((u.1) (b).toNatClampNeg) := by
  rw [se_orderR (h.cell ha) (h.cell hb)]
  unfold fn_X9_comparedNow
  rfl
theorem dg_apart {u : ky_BS} {w : ky_MV} (h : ky_SI u w) {a b : Int32} (ha : sj_in a) (hb : sj_in b) : (fn_X9_apartNow a b w).1 = fn_X6_stepsBetween ((u.1) (a).toNatClampNeg) ((u.1) (b).toNatClampNeg) := by
  rw [se_apartR (h.cell ha) (h.cell hb)]
  unfold fn_X9_apartNow
  by_cases c1 : (lg_cmp (fn_X8_rung ((w.2.2.2.2) (b).toNatClampNeg)) (fn_X8_rung ((w.2.2.2.2) (a).toNatClampNeg))) < (0 : Int32)
  · rw [if_pos c1, if_pos c1] <;> rfl
  · rw [if_neg c1, if_neg c1]
    by_cases c2 : (lg_cmp (fn_X8_rung ((w.2.2.2.2) (b).toNatClampNeg)) ((fn_X8_rung ((w.2.2.2.2) (a).toNatClampNeg)) + ((40 : Int64)))) ≤ (0 : Int32)
    · rw [if_pos c2, if_pos c2] <;> rfl
    · rw [if_neg c2, if_neg c2] <;> rfl
theorem dg_place {u : ky_BS} {w : ky_MV} (h : ky_SI u w) {a : Int32} (ha : sj_in a) : (fn_X9_placeNow a w).1 = (fn_X6_placeOf ((u.1) (a).toNatClampNeg) u).1 := (se_placeL h ha 7 0 0 (by omega)).symm
theorem dg_house {u : ky_BS} {w : ky_MV} (h9 : ky_SI u w) (j : Nat) (hj : j < 4) : (fn_X9_houseNow (nI j) w).1 = (fn_X6_countOf (nI j) u).1 := by
  have ej : j = 0 ∨ j = 1 ∨ j = 2 ∨ j = 3 := by omega
  unfold fn_X9_houseNow fn_X6_countOf
  have u9 := fun x => se_updK w.2.1 w.2.2.1 w.2.2.2.1 x
  rcases ej with rfl | rfl | rfl | rfl
  · rw [if_pos (show nI 0 = 0 from rfl)]
    exact (h9.2.1.trans (se_houseK (nI 0) w _ (fun x => by rw [nI_clamp (by omega)]; exact (u9 x).1) 7 0 0 (by omega) (by omega)).symm).symm
  · rw [if_neg (show ¬ nI 1 = 0 from by decide), if_pos (show nI 1 = 1 from rfl)]
    exact (h9.2.2.1.trans (se_houseK (nI 1) w _ (fun x => by rw [nI_clamp (by omega)]; exact (u9 x).2.1) 7 0 0 (by omega) (by omega)).symm).symm
  · rw [if_neg (show ¬ nI 2 = 0 from by decide), if_neg (show ¬ nI 2 = 1 from by decide), if_pos (show nI 2 = 2 from rfl)]
    exact (h9.2.2.2.trans (se_houseK (nI 2) w _ (fun x => by rw [nI_clamp (by omega)]; exact (u9 x).2.2) 7 0 0 (by omega) (by omega)).symm).symm
  · rw [if_neg (show ¬ nI 3 = 0 from by decide), if_neg (show ¬ nI 3 = 1 from by decide), if_neg (show ¬ nI 3 = 2 from by decide)]
    exact se_houseL h9 7 0 0 (by omega) (by omega)
theorem dg_0 {u : ky_BS} {w : ky_MV} (h : ky_SI u w) : bd_0 u = md_0 w := by
  have e0 : (fn_X9_houseNow (0 : Int32) w).1 = (fn_X6_countOf (0 : Int32) u).1 := dg_house h 0 (by decide)
  have e1 : (fn_X9_houseNow (1 : Int32) w).1 = (fn_X6_countOf (1 : Int32) u).1 := dg_house h 1 (by decide)
  have e2 : (fn_X9_houseNow (2 : Int32) w).1 = (fn_X6_countOf (2 : Int32) u).1 := dg_house h 2 (by decide)
  have e3 : (fn_X9_houseNow (3 : Int32) w).1 = (fn_X6_countOf (3 : Int32) u).1 := dg_house h 3 (by decide)
  unfold bd_0 md_0
  rw [e0, e1, e2, e3]
  simp only [dg_add]
theorem dg_it {u : ky_BS} {w : ky_MV} (h : ky_SI u w) {k : Nat} (hk : k < 6) (sm : Int64) : bd_it u sm k = md_it w sm k := by
  have ha := dg_in hk
  have hR := h.cell ha
  unfold bd_it bd_mA bd_mT md_it
  rw [dg_digit h ha 0 (by decide) (by decide), dg_digit h ha 1 (by decide) (by decide), dg_digit h ha 2 (by decide) (by decide), dg_digit h ha 3 (by decide) (by decide), dg_half h ha 1, dg_half h ha 0, dg_short h ha, dg_place h ha]
  rw [← se_kindR hR, ← dg_tl hR, ← se_expV hR, ← se_roundR hR, ← se_cutR hR, ← se_signR hR]
  rw [← dg_tl hR.floor, ← dg_tl hR.ceil, ← dg_tl hR.rint, ← dg_tl hR.step, ← dg_tl hR.next0, ← dg_tl hR.next1]
  simp only [dg_add, Nat.zero_add]
theorem dg_it2 {u : ky_BS} {w : ky_MV} (h : ky_SI u w) {k : Nat} (hk : k < 6) (sm : Int64) : bd_it2 u sm k = md_it2 w sm k := by
  have ha := dg_in hk
  unfold bd_it2 md_it2
  rw [dg_comp h ha (b := (0 : Int32)) dg_l0, dg_apart h ha (b := (0 : Int32)) dg_l0, dg_comp h ha (b := (1 : Int32)) dg_l1, dg_apart h ha (b := (1 : Int32)) dg_l1, dg_comp h ha (b := (2 : Int32)) dg_l2, dg_apart h ha (b := (2 : Int32)) dg_l2, dg_comp h ha (b := (3 : Int32)) dg_l3, dg_apart h ha (b := (3 : Int32)) dg_l3, dg_comp h ha (b := (4 : Int32)) dg_l4, dg_apart h ha (b := (4 : Int32)) dg_l4, dg_comp h ha (b := (5 : Int32)) dg_l5, dg_apart h ha (b := (5 : Int32)) dg_l5]
  simp only [dg_add]
theorem dg_D {u : ky_BS} {w : ky_MV} (h : ky_SI u w) : ∀ k, k ≤ 6 → bd_D u k = md_D w k := by
  intro k
  induction k with
  | zero => intro _; rw [bd_D, md_D, dg_0 h]
  | succ k ih => intro hk; rw [bd_D, md_D, ih (by omega), dg_it h (by omega)]
theorem dg_D2 {u : ky_BS} {w : ky_MV} (h : ky_SI u w) : ∀ k, k ≤ 6 → bd_D2 u k = md_D2 w k := by
  intro k
  induction k with
  | zero => intro _; rw [bd_D2, md_D2, dg_D h 6 (Nat.le_refl _)]
  | succ k ih => intro hk; rw [bd_D2, md_D2, ih (by omega), dg_it2 h (by omega)]
/-! the last one, the first one -/
theorem dg_last {V W : Int64} {v w : Int32 × Int64} (h : se_R V v) (h2 : se_R W w) : se_R (fn_X0_lastOf V W) (if (if lg_cmp (fn_X8_place w) (fn_X8_place v) ≤ (0 : Int32) then (0 : Int32) else (1 : Int32)) = (1 : Int32) then w else v) := by
  have z := se_lastR h h2
  by_cases a : lg_cmp (fn_X8_place w) (fn_X8_place v) ≤ (0 : Int32)
  · rw [if_pos a, if_neg (by decide)]
    by_cases b : lg_cmp (fn_X8_place v) (fn_X8_place w) ≤ (0 : Int32)
    · rw [if_pos b] at z
      rw [lg_cmp_le, Int64.le_iff_toInt_le] at a b
      have e : fn_X8_place v = fn_X8_place w := Int64.toInt_inj.mp (by omega)
      rw [(se_placeInj h h2 e).2]
      exact z
    · rw [if_neg b] at z
      exact z
  · rw [if_neg a, if_pos rfl]
    have b : lg_cmp (fn_X8_place v) (fn_X8_place w) ≤ (0 : Int32) := by
      rw [lg_cmp_le, Int64.le_iff_toInt_le] at a ⊢
      omega
    rw [if_pos b] at z
    exact z
theorem dg_first {V W : Int64} {v w : Int32 × Int64} (h : se_R V v) (h2 : se_R W w) : se_R (fn_X0_firstOf V W) (if (if lg_cmp (fn_X8_place w) (fn_X8_place v) ≤ (0 : Int32) then (0 : Int32) else (1 : Int32)) = (0 : Int32) then w else v) := by
  have z := se_firstR h h2
  by_cases a : lg_cmp (fn_X8_place w) (fn_X8_place v) ≤ (0 : Int32)
  · rw [if_pos a, if_pos rfl]
    by_cases b : lg_cmp (fn_X8_place v) (fn_X8_place w) ≤ (0 : Int32)
    · rw [if_pos b] at z
      rw [lg_cmp_le, Int64.le_iff_toInt_le] at a b
      have e : fn_X8_place v = fn_X8_place w := Int64.toInt_inj.mp (by omega)
      rw [← (se_placeInj h h2 e).2]
      exact z
    · rw [if_neg b] at z
      exact z
  · rw [if_neg a, if_neg (by decide)]
    have b : lg_cmp (fn_X8_place v) (fn_X8_place w) ≤ (0 : Int32) := by
      rw [lg_cmp_le, Int64.le_iff_toInt_le] at a ⊢
      omega
    rw [if_pos b] at z
    exact z
theorem dg_lastL {u : ky_BS} {w : ky_MV} (h : ky_SI u w) : ∀ (n m i : Nat) (V : Int64) (v : Int32 × Int64), i ≤ 6 → 6 - i < n → 6 - i < m → se_R V v → se_R (fn_X6_lastOfAll_L9 n u V (nI i)).1 (md_end w.2.2.2.2 (1 : Int32) m i v) := by
  intro n
  induction n with
  | zero => intro m i V v _ hn _ _; omega
  | succ n ih =>
    intro m i V v hi hn hm hR
    obtain ⟨m, rfl⟩ : ∃ m9, m = m9 + 1 := ⟨m - 1, by omega⟩
    rw [fn_X6_lastOfAll_L9, md_end]
    by_cases c : i = 6
    · rw [if_pos (show (6 : Int32) ≤ nI i from nI_le (a := 6) (by omega) (by omega)), if_pos (show (6 : Int32) ≤ nI i from nI_le (a := 6) (by omega) (by omega))]
      exact hR
    · rw [if_neg (show ¬ (6 : Int32) ≤ nI i from nI_ge (b := 6) (by omega) (by omega)), if_neg (show ¬ (6 : Int32) ≤ nI i from nI_ge (b := 6) (by omega) (by omega)), nI_1]
      exact ih m (i + 1) _ _ (by omega) (by omega) (by omega) (dg_last hR (h.cell (dg_in (by omega))))
theorem dg_lastE {u : ky_BS} {w : ky_MV} (h : ky_SI u w) : se_R (fn_X6_lastOfAll u).1 (md_ends w.2.2.2.2 (1 : Int32)) := by
  unfold fn_X6_lastOfAll md_ends
  rw [md_end, if_neg (show ¬ (6 : Int32) ≤ nI 0 from by decide)]
  refine dg_lastL h 7 6 1 _ _ (by omega) (by omega) (by omega) ?_
  have h0 := h.cell (a := (0 : Int32)) dg_l0
  split
  · exact h0
  · exact h0
theorem dg_firstL {u : ky_BS} {w : ky_MV} (h : ky_SI u w) : ∀ (n m i : Nat) (V : Int64) (v : Int32 × Int64), i ≤ 6 → 6 - i < n → 6 - i < m → se_R V v → se_R (fn_X6_firstOfAll_L9 n u V (nI i)).1 (md_end w.2.2.2.2 (0 : Int32) m i v) := by
  intro n
  induction n with
  | zero => intro m i V v _ hn _ _; omega
  | succ n ih =>
    intro m i V v hi hn hm hR
    obtain ⟨m, rfl⟩ : ∃ m9, m = m9 + 1 := ⟨m - 1, by omega⟩
    rw [fn_X6_firstOfAll_L9, md_end]
    by_cases c : i = 6
    · rw [if_pos (show (6 : Int32) ≤ nI i from nI_le (a := 6) (by omega) (by omega)), if_pos (show (6 : Int32) ≤ nI i from nI_le (a := 6) (by omega) (by omega))]
      exact hR
    · rw [if_neg (show ¬ (6 : Int32) ≤ nI i from nI_ge (b := 6) (by omega) (by omega)), if_neg (show ¬ (6 : Int32) ≤ nI i from nI_ge (b := 6) (by omega) (by omega)), nI_1]
      exact ih m (i + 1) _ _ (by omega) (by omega) (by omega) (dg_first hR (h.cell (dg_in (by omega))))
theorem dg_firstE {u : ky_BS} {w : ky_MV} (h : ky_SI u w) : se_R (fn_X6_firstOfAll u).1 (md_ends w.2.2.2.2 (0 : Int32)) := by
  unfold fn_X6_firstOfAll md_ends
  rw [md_end, if_neg (show ¬ (6 : Int32) ≤ nI 0 from by decide)]
  refine dg_firstL h 7 6 1 _ _ (by omega) (by omega) (by omega) ?_
  have h0 := h.cell (a := (0 : Int32)) dg_l0
  split
  · exact h0
  · exact h0
theorem dg_fin {u : ky_BS} {w : ky_MV} (h : ky_SI u w) (sm : Int64) : bd_fin u sm = md_fin w sm := by
  unfold bd_fin md_fin
  rw [dg_tl (dg_lastE h), dg_tl (dg_firstE h)]
  simp only [dg_add]
theorem dg_same {u : ky_BS} {w : ky_MV} (h : ky_SI u w) : bd_dig u = md_dig w := by
  unfold bd_dig md_dig
  rw [dg_D2 h 6 (Nat.le_refl _), dg_fin h]
