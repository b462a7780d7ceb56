theorem se_tkId {s Z : Nat} (hZ : Z ≤ se_E) {x : Nat} (h : se_sv Z = x) : se_tk (lN (s * 2 ^ 63 + Z)) s x := ⟨Z, hZ, rfl, h⟩
/-- a whole number near a cell's, with its side -/
theorem se_tkLike {s Z : Nat} (hs : s < 2) (hZ : Z ≤ se_E) (w : Nat) (hw : w < 2 ^ 53) {x : Nat} (hx : w * se_U = x) : se_tk (fn_X4_wholeLike (lN (s * 2 ^ 63 + Z)) (lN w)) s x := by
  obtain ⟨X, hX, e1, e2⟩ := se_nearW hw
  unfold fn_X4_wholeLike
  rw [e1, se_joinV hs (se_E63 hZ) (se_E63 hX)]
  exact ⟨X, hX, rfl, e2.trans hx⟩
theorem se_tkFloor {s Z : Nat} (hs : s < 2) (hZ : Z ≤ se_E) : se_tk (fn_X4_floorFrom (lN (s * 2 ^ 63 + Z))) s (if s = 0 then se_dn (se_sv Z) else se_up (se_sv Z)) := by
  have h9 := se_E63 hZ
  unfold fn_X4_floorFrom
  rw [se_restV hs h9]
  by_cases c : se_m Z % 2 ^ se_k Z = 0
  · obtain ⟨i1, i2, -⟩ := se_id _ ((se_r0 h9).mp c)
    rw [if_pos ((se_zr h9).mpr c), i1, i2, ite_self]
    exact se_tkId hZ rfl
  · have hh := se_kh c
    have hw := se_wholeLt hZ c
    have e := (se_WU h9 hh).1
    rw [if_neg (mt (se_zr h9).mp c), se_aheadV hs h9, se_downV hs h9, show lN (se_m Z / 2 ^ se_k Z) + ((0 : Int32)).toInt64 = lN (se_m Z / 2 ^ se_k Z + 0) from lN_add _ 0, show lN (se_m Z / 2 ^ se_k Z) + ((1 : Int32)).toInt64 = lN (se_m Z / 2 ^ se_k Z + 1) from lN_add _ 1]
    rcases se_s2 hs with rfl | rfl
    · rw [if_pos (show nI 0 = 0 from rfl), if_pos rfl]
      refine se_tkLike (by omega) hZ _ (by omega) ?_
      rw [e]; rfl
    · rw [if_neg (show ¬ nI 1 = 0 from by decide), if_neg (by decide)]
      refine se_tkLike (by omega) hZ _ (by omega) ?_
      rw [e, se_up1 _ (mt (se_r0 h9).mpr c)]
theorem se_tkCeil {s Z : Nat} (hs : s < 2) (hZ : Z ≤ se_E) : se_tk (fn_X4_ceilFrom (lN (s * 2 ^ 63 + Z))) s (if s = 0 then se_up (se_sv Z) else se_dn (se_sv Z)) := by
  have h9 := se_E63 hZ
  unfold fn_X4_ceilFrom
  rw [se_restV hs h9]
  by_cases c : se_m Z % 2 ^ se_k Z = 0
  · obtain ⟨i1, i2, -⟩ := se_id _ ((se_r0 h9).mp c)
    rw [if_pos ((se_zr h9).mpr c), i1, i2, ite_self]
    exact se_tkId hZ rfl
  · have hh := se_kh c
    have hw := se_wholeLt hZ c
    have e := (se_WU h9 hh).1
    rw [if_neg (mt (se_zr h9).mp c), se_aheadV hs h9, se_downV hs h9, show lN (se_m Z / 2 ^ se_k Z) + ((0 : Int32)).toInt64 = lN (se_m Z / 2 ^ se_k Z + 0) from lN_add _ 0, show lN (se_m Z / 2 ^ se_k Z) + ((1 : Int32)).toInt64 = lN (se_m Z / 2 ^ se_k Z + 1) from lN_add _ 1]
    rcases se_s2 hs with rfl | rfl
    · rw [if_pos (show nI 0 = 0 from rfl), if_pos rfl]
      refine se_tkLike (by omega) hZ _ (by omega) ?_
      rw [e, se_up1 _ (mt (se_r0 h9).mpr c)]
    · rw [if_neg (show ¬ nI 1 = 0 from by decide), if_neg (by decide)]
      refine se_tkLike (by omega) hZ _ (by omega) ?_
      rw [e]; rfl
theorem se_hvBh {Z : Nat} (hZ : Z < 2 ^ 63) (hh : Z / 2 ^ 52 < 1075) (c : ¬ se_m Z % 2 ^ se_k Z = 0) : (if se_bh (se_m Z) (se_k Z) = 3 then 1 else if se_bh (se_m Z) (se_k Z) = 2 then (if se_m Z / 2 ^ se_k Z % 2 = 1 then 1 else 0) else 0) = se_hv (se_sv Z) := by
  obtain ⟨e, -, h2, h3⟩ := se_WU hZ hh
  unfold se_hv se_bh
  rw [if_neg c, e]
  by_cases a : se_m Z % 2 ^ se_k Z < 2 ^ (se_k Z - 1)
  · have := h2.mp a
    rw [if_pos a, if_neg (show ¬ (1 : Nat) = 3 by decide), if_neg (show ¬ (1 : Nat) = 2 by decide), if_neg (show ¬ se_U < 2 * (se_sv Z % se_U) by omega), if_neg (show ¬ 2 * (se_sv Z % se_U) = se_U by omega)]
  · rw [if_neg a]
    by_cases b : se_m Z % 2 ^ se_k Z = 2 ^ (se_k Z - 1)
    · have := h3.mp b
      rw [if_pos b, if_neg (show ¬ (2 : Nat) = 3 by decide), if_pos rfl, if_neg (show ¬ se_U < 2 * (se_sv Z % se_U) by omega), if_pos this]
    · have a1 := mt h2.mpr a
      have b1 := mt h3.mpr b
      rw [if_neg b, if_pos rfl, if_pos (show se_U < 2 * (se_sv Z % se_U) by omega)]
theorem se_tkRint {s Z : Nat} (hs : s < 2) (hZ : Z ≤ se_E) : se_tk (fn_X4_rintFrom (lN (s * 2 ^ 63 + Z))) s (se_rd (se_sv Z)) := by
  have h9 := se_E63 hZ
  have hm := se_mlt h9
  unfold fn_X4_rintFrom
  rw [se_restV hs h9]
  by_cases c : se_m Z % 2 ^ se_k Z = 0
  · obtain ⟨-, -, i3⟩ := se_id _ ((se_r0 h9).mp c)
    rw [if_pos ((se_zr h9).mpr c), i3]
    exact se_tkId hZ rfl
  · have hh := se_kh c
    have hw := se_wholeLt hZ c
    have hk : 1 ≤ se_k Z := Nat.pos_of_ne_zero (fun z => c (by rw [z, Nat.pow_zero, Nat.mod_one]))
    have hv := se_hv1 (se_sv Z)
    rw [if_neg (mt (se_zr h9).mp c), se_factor hs h9, se_kV hs h9, se_halfIs hm hk (se_k60 Z), se_halfBh _ _ c, se_hvBh h9 hh c]
    refine se_tkLike hs hZ _ (by omega) ?_
    unfold se_rd
    rw [(se_WU h9 hh).1]
/-! rungs -/
def se_rg (s Z : Nat) : Int := if s = 0 then (Z : Int) else - (Z : Int)
theorem se_rg0 (Z : Nat) : se_rg 0 Z = (Z : Int) := rfl
theorem se_rg1 (Z : Nat) : se_rg 1 Z = - (Z : Int) := rfl
theorem se_rB {s Z : Nat} (hZ : Z ≤ se_E) : -9218868437227405312 ≤ se_rg s Z ∧ se_rg s Z ≤ 9218868437227405312 := by
  have hE : se_E = 9218868437227405312 := rfl
  unfold se_rg
  split <;> omega
theorem se_rungL {s Z : Nat} (hs : s < 2) (hZ : Z ≤ se_E) : fn_X0_rungIn (lN (s * 2 ^ 63 + Z)) = se_l (se_rg s Z) := by
  rw [se_rungV hs (se_E63 hZ), se_rung8 hs]
  rfl
theorem se_rungTk {W : Int64} {s x : Nat} (hs : s < 2) (h : se_tk W s x) : ∃ X, X ≤ se_E ∧ se_sv X = x ∧ fn_X0_rungIn W = se_l (se_rg s X) := by
  obtain ⟨X, hX, rfl, e⟩ := h
  exact ⟨X, hX, e, se_rungL hs hX⟩
/-- what comes first by the order -/
def se_le (s Z r Y : Nat) : Prop := (s = 0 ∧ r = 0 ∧ Z ≤ Y) ∨ (s = 1 ∧ r = 1 ∧ Y ≤ Z) ∨ (s = 1 ∧ r = 0)
theorem se_rankLe {s Z r Y : Nat} (hs : s < 2) (hr : r < 2) (hZ : Z ≤ se_E) (hY : Y ≤ se_E) : ¬ (0 : Int32) < lg_cmp (fn_X0_rankIn (lN (s * 2 ^ 63 + Z))) (fn_X0_rankIn (lN (r * 2 ^ 63 + Y))) → se_le s Z r Y := by
  have h8 := se_E63 hZ
  have h9 := se_E63 hY
  intro h
  rw [se_rankV hs h8, se_rankV hr h9, se_place8 hs, se_place8 hr, se_cgt (by split <;> omega) (by split <;> omega) (by split <;> omega) (by split <;> omega)] at h
  unfold se_le
  rcases se_s2 hs with rfl | rfl <;> rcases se_s2 hr with rfl | rfl <;> simp only [if_true, if_false, Nat.one_ne_zero] at h <;> omega
theorem se_monoTk {V W : Int64} {s r Z Y x y : Nat} (hs : s < 2) (hr : r < 2) (hV : se_tk V s x) (hW : se_tk W r y) (hl : se_le s Z r Y) (h0 : s = 0 → r = 0 → Z ≤ Y → x ≤ y) (h1 : s = 1 → r = 1 → Y ≤ Z → y ≤ x) : lg_cmp (fn_X0_rungIn V) (fn_X0_rungIn W) ≤ (0 : Int32) := by
  obtain ⟨X, hX, e1, e2⟩ := se_rungTk hs hV
  obtain ⟨X', hX', e3, e4⟩ := se_rungTk hr hW
  have h8 := se_E63 hX
  have h9 := se_E63 hX'
  have b1 := se_rB (s := s) hX
  have b2 := se_rB (s := r) hX'
  rw [e2, e4, se_cle (by omega) (by omega) (by omega) (by omega)]
  rcases hl with ⟨rfl, rfl, hl⟩ | ⟨rfl, rfl, hl⟩ | ⟨rfl, rfl⟩
  · have := h0 rfl rfl hl
    rw [← e1, ← e3, se_svLe h8 h9] at this
    rw [se_rg0, se_rg0]; omega
  · have := h1 rfl rfl hl
    rw [← e1, ← e3, se_svLe h9 h8] at this
    rw [se_rg1, se_rg1]; omega
  · rw [se_rg1, se_rg0]; omega
theorem se_moFloor {s r Z Y : Nat} (hs : s < 2) (hr : r < 2) (hZ : Z ≤ se_E) (hY : Y ≤ se_E) (hl : se_le s Z r Y) : lg_cmp (fn_X0_rungIn (fn_X4_floorFrom (lN (s * 2 ^ 63 + Z)))) (fn_X0_rungIn (fn_X4_floorFrom (lN (r * 2 ^ 63 + Y)))) ≤ (0 : Int32) := by
  refine se_monoTk hs hr (se_tkFloor hs hZ) (se_tkFloor hr hY) hl (fun a b c => ?_) (fun a b c => ?_)
  · rw [if_pos a, if_pos b]; exact se_dnMono ((se_svLe (se_E63 hZ) (se_E63 hY)).mpr c)
  · rw [if_neg (show ¬ s = 0 by omega), if_neg (show ¬ r = 0 by omega)]; exact se_upMono ((se_svLe (se_E63 hY) (se_E63 hZ)).mpr c)
theorem se_moCeil {s r Z Y : Nat} (hs : s < 2) (hr : r < 2) (hZ : Z ≤ se_E) (hY : Y ≤ se_E) (hl : se_le s Z r Y) : lg_cmp (fn_X0_rungIn (fn_X4_ceilFrom (lN (s * 2 ^ 63 + Z)))) (fn_X0_rungIn (fn_X4_ceilFrom (lN (r * 2 ^ 63 + Y)))) ≤ (0 : Int32) := by
  refine se_monoTk hs hr (se_tkCeil hs hZ) (se_tkCeil hr hY) hl (fun a b c => ?_) (fun a b c => ?_)
  · rw [if_pos a, if_pos b]; exact se_upMono ((se_svLe (se_E63 hZ) (se_E63 hY)).mpr c)
  · rw [if_neg (show ¬ s = 0 by omega), if_neg (show ¬ r = 0 by omega)]; exact se_dnMono ((se_svLe (se_E63 hY) (se_E63 hZ)).mpr c)
theorem se_moRint {s r Z Y : Nat} (hs : s < 2) (hr : r < 2) (hZ : Z ≤ se_E) (hY : Y ≤ se_E) (hl : se_le s Z r Y) : lg_cmp (fn_X0_rungIn (fn_X4_rintFrom (lN (s * 2 ^ 63 + Z)))) (fn_X0_rungIn (fn_X4_rintFrom (lN (r * 2 ^ 63 + Y)))) ≤ (0 : Int32) := by
  refine se_monoTk hs hr (se_tkRint hs hZ) (se_tkRint hr hY) hl (fun a b c => ?_) (fun a b c => ?_)
  · exact se_rdMono ((se_svLe (se_E63 hZ) (se_E63 hY)).mpr c)
  · exact se_rdMono ((se_svLe (se_E63 hY) (se_E63 hZ)).mpr c)
/-! up, down: the rung, one more or less -/
theorem se_upRung {s Z : Nat} (hs : s < 2) (hZ : Z ≤ se_E) : ∃ r X, r < 2 ∧ X ≤ se_E ∧ fn_X4_upFrom (lN (s * 2 ^ 63 + Z)) = lN (r * 2 ^ 63 + X) ∧ se_rg r X = min (se_rg s Z + 1) (se_E : Int) := by
  have h9 := se_E63 hZ
  have hE : se_E = 9218868437227405312 := rfl
  unfold fn_X4_upFrom
  rw [se_sizeV hs h9, se_downV hs h9, show (9218868437227405312 : Int64) = lN se_E from rfl]
  have z0 := se_neq (a := s * 2 ^ 63 + Z) (b := se_E) (by omega) (by omega)
  have z1 := se_z (a := Z) (by omega)
  rcases se_s2 hs with rfl | rfl
  · by_cases c : Z = se_E
    · rw [if_pos (z0.mpr (by omega))]
      refine ⟨0, Z, by omega, hZ, rfl, ?_⟩
      rw [se_rg0]; omega
    · rw [if_neg (mt z0.mp (by omega)), if_pos (show nI 0 = 0 from rfl)]
      by_cases c0 : Z = 0
      · rw [if_pos (z1.mpr c0)]
        refine ⟨0, 1, by omega, by omega, by rw [Nat.zero_mul, Nat.zero_add]; rfl, ?_⟩
        rw [se_rg0, se_rg0]; omega
      · rw [if_neg (mt z1.mp c0), lN_1, Nat.add_assoc]
        refine ⟨0, Z + 1, by omega, by omega, rfl, ?_⟩
        rw [se_rg0, se_rg0]; omega
  · rw [if_neg (mt z0.mp (by omega)), if_neg (show ¬ nI 1 = 0 from by decide)]
    by_cases c0 : Z = 0
    · rw [if_pos (z1.mpr c0)]
      refine ⟨0, 1, by omega, by omega, by rw [Nat.zero_mul, Nat.zero_add]; rfl, ?_⟩
      rw [se_rg0, se_rg1]; omega
    · rw [if_neg (mt z1.mp c0), show (1 : Int64) = lN 1 from rfl, lN_sub (by omega)]
      refine ⟨1, Z - 1, by omega, by omega, by rw [show 1 * 2 ^ 63 + Z - 1 = 1 * 2 ^ 63 + (Z - 1) by omega], ?_⟩
      rw [se_rg1, se_rg1]; omega
theorem se_dnRung {s Z : Nat} (hs : s < 2) (hZ : Z ≤ se_E) : ∃ r X, r < 2 ∧ X ≤ se_E ∧ fn_X4_downFrom (lN (s * 2 ^ 63 + Z)) = lN (r * 2 ^ 63 + X) ∧ se_rg r X = max (se_rg s Z - 1) (- (se_E : Int)) := by
  have h9 := se_E63 hZ
  have hn : ∀ a b : Nat, a < 2 → se_rg (1 - a) b = - se_rg a b := fun a b ha => by
    rcases se_s2 ha with rfl | rfl
    · rfl
    · show ((b : Nat) : Int) = - - ((b : Nat) : Int)
      omega
  rw [se_downUp (v := (nI s, lN Z)) ⟨s, Z, hs, hZ, rfl, rfl⟩, se_turnV hs h9]
  obtain ⟨r, X, hr, hX, e1, e2⟩ := se_upRung (s := 1 - s) (Z := Z) (by omega) hZ
  refine ⟨1 - r, X, by omega, hX, by rw [e1, se_turnV hr (se_E63 hX)], ?_⟩
  rw [hn s Z hs] at e2
  rw [hn r X hr, e2]
  omega
theorem se_leRung {s r Z Y : Nat} (hl : se_le s Z r Y) : se_rg s Z ≤ se_rg r Y := by
  rcases hl with ⟨rfl, rfl, hl⟩ | ⟨rfl, rfl, hl⟩ | ⟨rfl, rfl⟩
  · rw [se_rg0, se_rg0]; omega
  · rw [se_rg1, se_rg1]; omega
  · rw [se_rg1, se_rg0]; omega
theorem se_moUp {s r Z Y : Nat} (hs : s < 2) (hr : r < 2) (hZ : Z ≤ se_E) (hY : Y ≤ se_E) (hl : se_le s Z r Y) : lg_cmp (fn_X0_rungIn (fn_X4_upFrom (lN (s * 2 ^ 63 + Z)))) (fn_X0_rungIn (fn_X4_upFrom (lN (r * 2 ^ 63 + Y)))) ≤ (0 : Int32) := by
  obtain ⟨a, X, ha, hX, e1, e2⟩ := se_upRung hs hZ
  obtain ⟨b, X', hb, hX', e3, e4⟩ := se_upRung hr hY
  have h := se_leRung hl
  have b1 := se_rB (s := a) hX
  have b2 := se_rB (s := b) hX'
  rw [e1, e3, se_rungL ha hX, se_rungL hb hX', se_cle (by omega) (by omega) (by omega) (by omega), e2, e4]
  omega
theorem se_moDown {s r Z Y : Nat} (hs : s < 2) (hr : r < 2) (hZ : Z ≤ se_E) (hY : Y ≤ se_E) (hl : se_le s Z r Y) : lg_cmp (fn_X0_rungIn (fn_X4_downFrom (lN (s * 2 ^ 63 + Z)))) (fn_X0_rungIn (fn_X4_downFrom (lN (r * 2 ^ 63 + Y)))) ≤ (0 : Int32) := by
  obtain ⟨a, X, ha, hX, e1, e2⟩ := se_dnRung hs hZ
  obtain ⟨b, X', hb, hX', e3, e4⟩ := se_dnRung hr hY
  have h := se_leRung hl
  have b1 := se_rB (s := a) hX
  have b2 := se_rB (s := b) hX'
  rw [e1, e3, se_rungL ha hX, se_rungL hb hX', se_cle (by omega) (by omega) (by omega) (by omega), e2, e4]
  omega
theorem se_tkSign {s Z : Nat} (hs : s < 2) (hZ : Z ≤ se_E) : se_tk (fn_X4_signFrom (lN (s * 2 ^ 63 + Z))) s (if Z = 0 then 0 else se_sv 4607182418800017408) := by
  have h9 := se_E63 hZ
  have z1 := se_z (a := Z) (by omega)
  unfold fn_X4_signFrom
  rw [se_sizeV hs h9]
  by_cases c0 : Z = 0
  · rw [if_pos (z1.mpr c0), if_pos c0, c0]
    exact se_tkId (Nat.zero_le _) se_sv0
  · rw [if_neg (mt z1.mp c0), if_neg c0, show (4607182418800017408 : Int64) = lN 4607182418800017408 from rfl, se_joinV hs h9 (by decide)]
    exact se_tkId (by decide) rfl
theorem se_moSign {s r Z Y : Nat} (hs : s < 2) (hr : r < 2) (hZ : Z ≤ se_E) (hY : Y ≤ se_E) (hl : se_le s Z r Y) : lg_cmp (fn_X0_rungIn (fn_X4_signFrom (lN (s * 2 ^ 63 + Z)))) (fn_X0_rungIn (fn_X4_signFrom (lN (r * 2 ^ 63 + Y)))) ≤ (0 : Int32) := by
  have t1 := se_tkSign hs hZ
  have t2 := se_tkSign hr hY
  generalize se_sv 4607182418800017408 = o at t1 t2
  refine se_monoTk hs hr t1 t2 hl (fun a b c => ?_) (fun a b c => ?_) <;> (repeat' split) <;> omega
/-! times 2^5: the value times 32, ENDLESS at most -/
theorem se_svE : se_sv se_E = 2 ^ 52 * 2 ^ 2046 := by
  unfold se_sv
  rw [show se_m se_E = 2 ^ 52 from rfl, show se_h se_E - 1 = 2046 from rfl]
theorem se_finSv {M : Nat} {e : Int} {t : Nat} (h1 : 2 ^ 52 ≤ M) (h2 : M < 2 ^ 53) (he : -1074 ≤ e) (ht : t = M * 2 ^ (e + 1074).toNat) : se_sv (se_fin M e) = min t (se_sv se_E) := by
  have hE : se_E = 9218868437227405312 := rfl
  rw [ht]
  by_cases c : e ≤ 971
  · have hx : se_fin M e = (e + 1075).toNat * 2 ^ 52 + (M - 2 ^ 52) := by
      unfold se_fin
      rw [if_pos c, if_neg (by omega)]
    obtain ⟨X, hX⟩ : ∃ X, X = (e + 1075).toNat * 2 ^ 52 + (M - 2 ^ 52) := ⟨_, rfl⟩
    have q1 : X / 2 ^ 52 = (e + 1075).toNat := by omega
    have q2 : X % 2 ^ 52 + 2 ^ 52 = M := by omega
    have hs : se_sv X = M * 2 ^ (e + 1074).toNat := by
      unfold se_sv se_h se_m
      rw [if_neg (show ¬ X / 2 ^ 52 = 0 by omega), q1, q2, show max (e + 1075).toNat 1 - 1 = (e + 1074).toNat by omega]
    have hl : se_sv X ≤ se_sv se_E := (se_svLe (by omega) (by omega)).mpr (by omega)
    rw [hx, ← hX, ← hs]
    exact (Nat.min_eq_left hl).symm
  · have hx : se_fin M e = se_E := by
      unfold se_fin
      rw [if_neg c]
    rw [hx, Nat.min_eq_right]
    rw [se_svE]
    exact Nat.mul_le_mul h1 (Nat.pow_le_pow_right (by decide) (by omega))
theorem se_tkTimes {s Z : Nat} (hs : s < 2) (hZ : Z ≤ se_E) : se_tk (fn_X2_timesPower (lN (s * 2 ^ 63 + Z)) ((5 : Int32))) s (min (32 * se_sv Z) (se_sv se_E)) := by
  have h9 := se_E63 hZ
  have hm := se_mlt h9
  have hE : se_E = 9218868437227405312 := rfl
  have z1 := se_z (a := Z) (by omega)
  have hlE : se_sv Z ≤ se_sv se_E := (se_svLe h9 (by omega)).mpr hZ
  unfold fn_X2_timesPower
  rw [se_sizeV hs h9]
  by_cases c0 : Z = 0
  · rw [if_pos (z1.mpr c0), c0]
    exact se_tkId (Nat.zero_le _) (by rw [se_sv0]; omega)
  · rw [if_neg (mt z1.mp c0)]
    by_cases c : Z = se_E
    · rw [if_neg (fun q => (se_endV hs hZ).mp q c)]
      refine se_tkId hZ ?_
      rw [c] at hlE ⊢
      omega
    · have hp1 : -1074 ≤ se_pw Z := by unfold se_pw; omega
      have hp2 : se_pw Z ≤ 972 := by unfold se_pw; omega
      have hph : se_pw Z + 1074 = ((se_h Z - 1 : Nat) : Int) := by unfold se_pw se_h; omega
      rw [if_pos ((se_endV hs hZ).mpr c), se_factor hs h9, se_powV hs h9, show jimax ((-2200 : Int32)) (jimin ((2200 : Int32)) ((5 : Int32))) = se_i 5 from by decide, se_i_add]
      have hm0 : 0 < se_m Z := by
        unfold se_m
        split <;> omega
      obtain ⟨d, hd, h1, h2⟩ := se_norm hm0 hm
      rw [se_near2 hd h1 h2 (by omega) (by omega), se_joinV hs h9 (se_E63 (se_finLe h1 h2))]
      refine ⟨_, se_finLe h1 h2, rfl, ?_⟩
      by_cases g : -1074 ≤ se_pw Z + 5 - d
      · refine se_finSv h1 h2 g ?_
        unfold se_sv
        rw [show (32 : Nat) = 2 ^ 5 from rfl, Nat.mul_assoc, ← Nat.pow_add, show d + (se_pw Z + 5 - d + 1074).toNat = 5 + (se_h Z - 1) by omega, Nat.pow_add, Nat.mul_left_comm]
      · have hZ0 : Z / 2 ^ 52 = 0 := by
          refine Classical.byContradiction (fun q => ?_)
          have a := se_hm q
          have : d = 0 := by
            refine Classical.byContradiction (fun z => ?_)
            have b : 2 ^ 1 ≤ 2 ^ d := Nat.pow_le_pow_right (by decide) (by omega)
            have b2 := Nat.mul_le_mul a b
            omega
          omega
        have hpz : se_pw Z = -1074 := by unfold se_pw; omega
        have hsv : se_sv Z = se_m Z := by unfold se_sv; rw [show se_h Z - 1 = 0 by unfold se_h; omega, Nat.pow_zero, Nat.mul_one]
        obtain ⟨k, hk⟩ : ∃ k, d = k + 5 := ⟨d - 5, by omega⟩
        have hk1 : 1 ≤ k := by omega
        have e1 : se_m Z * 2 ^ d = se_m Z * 32 * 2 ^ k := by rw [hk, Nat.pow_add, Nat.mul_assoc]; congr 1; omega
        have e2 : se_fin (se_m Z * 2 ^ d) (se_pw Z + 5 - d) = se_m Z * 32 := by
          unfold se_fin
          rw [if_pos (by omega), if_pos (by omega), if_pos (by omega), show (-1074 - (se_pw Z + 5 - (d : Int))).toNat = k by omega, e1]
          unfold se_half
          rw [Nat.mul_mod_left, Nat.mul_div_cancel _ (se_p2 k), if_neg (Nat.not_lt_zero _), if_neg (Nat.ne_of_lt (se_p2 (k - 1)))]
        rw [e2, hsv]
        have hlt : se_m Z * 32 < 2 ^ 52 := by
          rw [e1] at h2
          have b : 2 ^ 1 ≤ 2 ^ k := Nat.pow_le_pow_right (by decide) hk1
          have b2 := Nat.mul_le_mul_left (se_m Z * 32) b
          omega
        have e3 : se_sv (se_m Z * 32) = se_m Z * 32 := se_svSmall hlt
        have e4 : se_sv (se_m Z * 32) ≤ se_sv se_E := (se_svLe (by omega) (by omega)).mpr (by omega)
        rw [e3] at e4 ⊢
        omega
theorem se_moTimes {s r Z Y : Nat} (hs : s < 2) (hr : r < 2) (hZ : Z ≤ se_E) (hY : Y ≤ se_E) (hl : se_le s Z r Y) : lg_cmp (fn_X0_rungIn (fn_X2_timesPower (lN (s * 2 ^ 63 + Z)) 5)) (fn_X0_rungIn (fn_X2_timesPower (lN (r * 2 ^ 63 + Y)) 5)) ≤ (0 : Int32) := by
  refine se_monoTk hs hr (se_tkTimes hs hZ) (se_tkTimes hr hY) hl (fun a b c => ?_) (fun a b c => ?_)
  · have := (se_svLe (se_E63 hZ) (se_E63 hY)).mpr c; omega
  · have := (se_svLe (se_E63 hY) (se_E63 hZ)).mpr c; omega
