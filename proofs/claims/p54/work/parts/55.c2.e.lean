/-! what isSound asks, of good numbers -/
def se_good (V : Int64) : Prop := ∃ s Z : Nat, s < 2 ∧ Z ≤ se_E ∧ V = lN (s * 2 ^ 63 + Z)
theorem se_R.good {V : Int64} {v : Int32 × Int64} (h : se_R V v) : se_good V := by
  obtain ⟨s, Z, hs, hZ, e, -⟩ := h
  exact ⟨s, Z, hs, hZ, e⟩
theorem ky_SI.good {u : ky_BS} {w : ky_MV} (h : ky_SI u w) : ∀ j, j < 6 → se_good (u.1 j) := fun j hj => (h.1 j hj).good
/-- the rows of taken things -/
def ky_row (V : Int64) (k : Nat) : Int64 := ([fn_X0_rungIn (fn_X4_floorFrom V), fn_X0_rungIn (fn_X4_ceilFrom V), fn_X0_rungIn (fn_X4_rintFrom V), fn_X0_rungIn (fn_X4_upFrom V), fn_X0_rungIn (fn_X4_downFrom V), fn_X0_rungIn (fn_X4_signFrom V), fn_X0_rungIn (fn_X2_timesPower V ((5 : Int32))), fn_X5_roundFrom V] : List Int64).getD k 0
theorem ky_row0 (V : Int64) : ky_row V 0 = fn_X0_rungIn (fn_X4_floorFrom V) := by
  unfold ky_row
  rw [List.getD_cons_zero]
theorem ky_row1 (V : Int64) : ky_row V 1 = fn_X0_rungIn (fn_X4_ceilFrom V) := by
  unfold ky_row
  rw [List.getD_cons_succ, List.getD_cons_zero]
theorem ky_row2 (V : Int64) : ky_row V 2 = fn_X0_rungIn (fn_X4_rintFrom V) := by
  unfold ky_row
  rw [List.getD_cons_succ, List.getD_cons_succ, List.getD_cons_zero]
theorem ky_row3 (V : Int64) : ky_row V 3 = fn_X0_rungIn (fn_X4_upFrom V) := by
  unfold ky_row
  rw [List.getD_cons_succ, List.getD_cons_succ, List.getD_cons_succ, List.getD_cons_zero]
theorem ky_row4 (V : Int64) : ky_row V 4 = fn_X0_rungIn (fn_X4_downFrom V) := by
  unfold ky_row
  rw [List.getD_cons_succ, List.getD_cons_succ, List.getD_cons_succ, List.getD_cons_succ, List.getD_cons_zero]
theorem ky_row5 (V : Int64) : ky_row V 5 = fn_X0_rungIn (fn_X4_signFrom V) := by
  unfold ky_row
  rw [List.getD_cons_succ, List.getD_cons_succ, List.getD_cons_succ, List.getD_cons_succ, List.getD_cons_succ, List.getD_cons_zero]
theorem ky_row6 (V : Int64) : ky_row V 6 = fn_X0_rungIn (fn_X2_timesPower V ((5 : Int32))) := by
  unfold ky_row
  rw [List.getD_cons_succ, List.getD_cons_succ, List.getD_cons_succ, List.getD_cons_succ, List.getD_cons_succ, List.getD_cons_succ, List.getD_cons_zero]
theorem ky_row7 (V : Int64) : ky_row V 7 = fn_X5_roundFrom V := by
  unfold ky_row
  rw [List.getD_cons_succ, List.getD_cons_succ, List.getD_cons_succ, List.getD_cons_succ, List.getD_cons_succ, List.getD_cons_succ, List.getD_cons_succ, List.getD_cons_zero]
theorem se_rowMono {V W : Int64} (hV : se_good V) (hW : se_good W) (h : ¬ (0 : Int32) < lg_cmp (fn_X0_rankIn V) (fn_X0_rankIn W)) : ∀ k, k < 8 → lg_cmp (ky_row V k) (ky_row W k) ≤ (0 : Int32) := by
  obtain ⟨s, Z, hs, hZ, rfl⟩ := hV
  obtain ⟨r, Y, hr, hY, rfl⟩ := hW
  have hl := se_rankLe hs hr hZ hY h
  intro k hk
  match k, hk with
  | 0, _ =>
    rw [ky_row0, ky_row0]
    exact se_moFloor hs hr hZ hY hl
  | 1, _ =>
    rw [ky_row1, ky_row1]
    exact se_moCeil hs hr hZ hY hl
  | 2, _ =>
    rw [ky_row2, ky_row2]
    exact se_moRint hs hr hZ hY hl
  | 3, _ =>
    rw [ky_row3, ky_row3]
    exact se_moUp hs hr hZ hY hl
  | 4, _ =>
    rw [ky_row4, ky_row4]
    exact se_moDown hs hr hZ hY hl
  | 5, _ =>
    rw [ky_row5, ky_row5]
    exact se_moSign hs hr hZ hY hl
  | 6, _ =>
    rw [ky_row6, ky_row6]
    exact se_moTimes hs hr hZ hY hl
  | 7, _ =>
    rw [ky_row7, ky_row7]
    exact se_moRound hs hr hZ hY hl
  | k + 8, hk => omega
theorem se_in6 {a : Int32} (h : vp_in a 6) : a.toNatClampNeg < 6 := by
  obtain ⟨h1, h2⟩ := vp_in_iff.mp h
  show a.toInt.toNat < 6
  omega
theorem ky_twoQ {f : Nat → Int64} {g : Nat → Nat → Int64} (hv : ∀ j, j < 6 → se_good (f j)) (hI : ∀ c9 k8, c9 < 6 → k8 < 8 → g k8 c9 = ky_row (f c9) k8) {a b : Int32} (ha : vp_in a 6) (hb : vp_in b 6) : ¬ (0 : Int32) < (lg_cmp (fn_X0_rankIn (f a.toNatClampNeg)) (fn_X0_rankIn (f b.toNatClampNeg))) → ∀ k, k < 8 → lg_cmp ((g k) a.toNatClampNeg) ((g k) b.toNatClampNeg) ≤ (0 : Int32) := by
  intro h k hk
  rw [hI _ k (se_in6 ha) hk, hI _ k (se_in6 hb) hk]
  exact se_rowMono (hv _ (se_in6 ha)) (hv _ (se_in6 hb)) h k hk
theorem se_rankInj {V W : Int64} (hV : se_good V) (hW : se_good W) (h : fn_X0_rankIn V = fn_X0_rankIn W) : V = W := by
  obtain ⟨s, Z, hs, hZ, e1⟩ := hV
  obtain ⟨r, Y, hr, hY, e2⟩ := hW
  have h1 : se_R V (nI s, lN Z) := ⟨s, Z, hs, hZ, e1, rfl⟩
  have h2 : se_R W (nI r, lN Y) := ⟨r, Y, hr, hY, e2, rfl⟩
  rw [se_rankR h1, se_rankR h2] at h
  exact (se_placeInj h1 h2 h).1
theorem ky_twoB {f : Nat → Int64} (hv : ∀ j, j < 6 → se_good (f j)) {a b : Int32} (ha : vp_in a 6) (hb : vp_in b 6) : (fn_X0_lastOf (f a.toNatClampNeg) (f b.toNatClampNeg) = f a.toNatClampNeg ∧ fn_X0_firstOf (f a.toNatClampNeg) (f b.toNatClampNeg) = f b.toNatClampNeg) ∨ (fn_X0_lastOf (f a.toNatClampNeg) (f b.toNatClampNeg) = f b.toNatClampNeg ∧ fn_X0_firstOf (f a.toNatClampNeg) (f b.toNatClampNeg) = f a.toNatClampNeg) := by
  have hi := se_rankInj (hv _ (se_in6 ha)) (hv _ (se_in6 hb))
  generalize f a.toNatClampNeg = V at hi ⊢
  generalize f b.toNatClampNeg = W at hi ⊢
  unfold fn_X0_lastOf fn_X0_firstOf
  by_cases c1 : lg_cmp (fn_X0_rankIn V) (fn_X0_rankIn W) < (0 : Int32)
  · rw [if_pos c1, if_neg (by rw [Int32.lt_iff_toInt_lt] at c1 ⊢; omega)]
    exact Or.inr ⟨rfl, rfl⟩
  · rw [if_neg c1]
    by_cases c2 : (0 : Int32) < lg_cmp (fn_X0_rankIn V) (fn_X0_rankIn W)
    · rw [if_pos c2]
      exact Or.inl ⟨rfl, rfl⟩
    · rw [if_neg c2]
      refine Or.inl ⟨rfl, hi ?_⟩
      rw [lg_cmp_lt, Int64.lt_iff_toInt_lt] at c1
      rw [lg_cmp_gt, Int64.lt_iff_toInt_lt] at c2
      exact Int64.toInt_inj.mp (by omega)
theorem ky_tA {L F a b : Int64} (h : (L = a ∧ F = b) ∨ (L = b ∧ F = a)) (z : ¬ lg_cmp L a = (0 : Int32)) : lg_cmp L b = (0 : Int32) := by
  rcases h with ⟨h1, -⟩ | ⟨h1, -⟩
  · exact absurd ((lg_cmp_eq _ _).mpr h1) z
  · exact (lg_cmp_eq _ _).mpr h1
theorem ky_tB {L F a b : Int64} (h : (L = a ∧ F = b) ∨ (L = b ∧ F = a)) (z : ¬ lg_cmp F b = (0 : Int32)) : lg_cmp L b = (0 : Int32) := by
  rcases h with ⟨-, h1⟩ | ⟨h1, -⟩
  · exact absurd ((lg_cmp_eq _ _).mpr h1) z
  · exact (lg_cmp_eq _ _).mpr h1
theorem ky_tC {L F a b : Int64} (h : (L = a ∧ F = b) ∨ (L = b ∧ F = a)) (z : ¬ lg_cmp L a = (0 : Int32)) : lg_cmp F a = (0 : Int32) := by
  rcases h with ⟨h1, -⟩ | ⟨-, h1⟩
  · exact absurd ((lg_cmp_eq _ _).mpr h1) z
  · exact (lg_cmp_eq _ _).mpr h1
theorem ky_tD {L F a b : Int64} (h : (L = a ∧ F = b) ∨ (L = b ∧ F = a)) (z : ¬ lg_cmp F b = (0 : Int32)) : lg_cmp F a = (0 : Int32) := by
  rcases h with ⟨-, h1⟩ | ⟨-, h1⟩
  · exact absurd ((lg_cmp_eq _ _).mpr h1) z
  · exact (lg_cmp_eq _ _).mpr h1
theorem ky_okW {f : Nat → Int64} (hv : ∀ j, j < 6 → se_good (f j)) {k : Nat} (h : ¬ 6 ≤ k) : ¬ fn_X1_areWholesRight ((f) (nI (k)).toNatClampNeg) = (0 : Int32) := by
  rw [nI_clamp (by omega)]
  obtain ⟨s, Z, hs, hZ, e⟩ := hv k (by omega)
  rw [e, se_okWholes hs hZ]
  decide
theorem ky_okR {f : Nat → Int64} (hv : ∀ j, j < 6 → se_good (f j)) {k : Nat} (h : ¬ 6 ≤ k) : ¬ fn_X1_isRintRight ((f) (nI (k)).toNatClampNeg) = (0 : Int32) := by
  rw [nI_clamp (by omega)]
  obtain ⟨s, Z, hs, hZ, e⟩ := hv k (by omega)
  rw [e, se_okRint hs hZ]
  decide
theorem ky_okN {f : Nat → Int64} (hv : ∀ j, j < 6 → se_good (f j)) {k : Nat} (h : ¬ 6 ≤ k) : ¬ fn_X1_areNextRight ((f) (nI (k)).toNatClampNeg) = (0 : Int32) := by
  rw [nI_clamp (by omega)]
  obtain ⟨s, Z, hs, hZ, e⟩ := hv k (by omega)
  rw [e, se_okNext hs hZ]
  decide
theorem ky_okP {f : Nat → Int64} (hv : ∀ j, j < 6 → se_good (f j)) {k : Nat} (h : ¬ 6 ≤ k) : ¬ fn_X1_arePartsRight ((f) (nI (k)).toNatClampNeg) = (0 : Int32) := by
  rw [nI_clamp (by omega)]
  obtain ⟨s, Z, hs, hZ, e⟩ := hv k (by omega)
  rw [e, se_okParts hs hZ]
  decide
