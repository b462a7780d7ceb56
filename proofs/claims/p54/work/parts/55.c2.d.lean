/-! the four checks of one number -/
theorem se_tkEq {V W : Int64} {s x : Nat} (h : se_tk V s x) (h2 : se_tk W s x) : V = W := by
  obtain ⟨X, hX, rfl, e⟩ := h
  obtain ⟨Y, hY, rfl, e2⟩ := h2
  rw [se_svEq (se_E63 hX) (se_E63 hY) (e.trans e2.symm)]
theorem se_tkNe {V W : Int64} {s x y : Nat} (hs : s < 2) (h : se_tk V s x) (h2 : se_tk W s y) (hn : x ≠ y) : V ≠ W := by
  obtain ⟨X, hX, rfl, e⟩ := h
  obtain ⟨Y, hY, rfl, e2⟩ := h2
  intro q
  have h8 := se_E63 hX
  have h9 := se_E63 hY
  rw [se_inj (by omega) (by omega)] at q
  have : X = Y := by omega
  rw [this] at e
  exact hn (e.symm.trans e2)
theorem se_tkTurn {W : Int64} {s x : Nat} (hs : s < 2) (h : se_tk W s x) : se_tk (fn_X0_turned W) (1 - s) x := by
  obtain ⟨X, hX, rfl, e⟩ := h
  exact ⟨X, hX, se_turnV hs (se_E63 hX), e⟩
theorem se_turn2 (W : Int64) : fn_X0_turned (fn_X0_turned W) = W := by
  unfold fn_X0_turned
  rw [Int64.xor_assoc, Int64.xor_self, Int64.xor_zero]
/-! (a mismatch of se_dn and se_up must never be put to the kernel: it counts to 2^1074) -/
theorem se_tkF0 {Z : Nat} (hZ : Z ≤ se_E) : se_tk (fn_X4_floorFrom (lN (0 * 2 ^ 63 + Z))) 0 (se_dn (se_sv Z)) := by
  have h := se_tkFloor (s := 0) (by omega) hZ
  rw [if_pos rfl] at h
  exact h
theorem se_tkF1 {Z : Nat} (hZ : Z ≤ se_E) : se_tk (fn_X4_floorFrom (lN (1 * 2 ^ 63 + Z))) 1 (se_up (se_sv Z)) := by
  have h := se_tkFloor (s := 1) (by omega) hZ
  rw [if_neg (by decide)] at h
  exact h
theorem se_tkC0 {Z : Nat} (hZ : Z ≤ se_E) : se_tk (fn_X4_ceilFrom (lN (0 * 2 ^ 63 + Z))) 0 (se_up (se_sv Z)) := by
  have h := se_tkCeil (s := 0) (by omega) hZ
  rw [if_pos rfl] at h
  exact h
theorem se_tkC1 {Z : Nat} (hZ : Z ≤ se_E) : se_tk (fn_X4_ceilFrom (lN (1 * 2 ^ 63 + Z))) 1 (se_dn (se_sv Z)) := by
  have h := se_tkCeil (s := 1) (by omega) hZ
  rw [if_neg (by decide)] at h
  exact h
theorem se_wh1 {s Z : Nat} (hs : s < 2) (hZ : Z ≤ se_E) : fn_X4_floorFrom (lN (s * 2 ^ 63 + Z)) = fn_X0_turned (fn_X4_ceilFrom (lN ((1 - s) * 2 ^ 63 + Z))) := by
  rcases se_s2 hs with rfl | rfl
  · rw [show 1 - 0 = 1 from rfl]
    have h := se_tkTurn (s := 1) (by omega) (se_tkC1 hZ)
    rw [show 1 - 1 = 0 from rfl] at h
    exact se_tkEq (se_tkF0 hZ) h
  · rw [show 1 - 1 = 0 from rfl]
    have h := se_tkTurn (s := 0) (by omega) (se_tkC0 hZ)
    rw [show 1 - 0 = 1 from rfl] at h
    exact se_tkEq (se_tkF1 hZ) h
theorem se_wh2 {s Z : Nat} (hs : s < 2) (hZ : Z ≤ se_E) : fn_X4_ceilFrom (lN (s * 2 ^ 63 + Z)) = fn_X0_turned (fn_X4_floorFrom (lN ((1 - s) * 2 ^ 63 + Z))) := by
  rcases se_s2 hs with rfl | rfl
  · rw [show 1 - 0 = 1 from rfl]
    have h := se_tkTurn (s := 1) (by omega) (se_tkF1 hZ)
    rw [show 1 - 1 = 0 from rfl] at h
    exact se_tkEq (se_tkC0 hZ) h
  · rw [show 1 - 1 = 0 from rfl]
    have h := se_tkTurn (s := 0) (by omega) (se_tkF0 hZ)
    rw [show 1 - 0 = 1 from rfl] at h
    exact se_tkEq (se_tkC1 hZ) h
theorem se_okWholes {s Z : Nat} (hs : s < 2) (hZ : Z ≤ se_E) : fn_X1_areWholesRight (lN (s * 2 ^ 63 + Z)) = 1 := by
  have h9 := se_E63 hZ
  have tF := se_tkFloor hs hZ
  have tC := se_tkCeil hs hZ
  have e1 := se_wh1 hs hZ
  have e2 := se_wh2 hs hZ
  have b0 := se_rB (s := s) hZ
  have g1 : ¬ (0 : Int32) < lg_cmp (fn_X0_rungIn (fn_X4_floorFrom (lN (s * 2 ^ 63 + Z)))) (fn_X0_rungIn (lN (s * 2 ^ 63 + Z))) := by
    obtain ⟨X, hX, q1, q2⟩ := se_rungTk hs tF
    have hX9 := se_E63 hX
    have b1 := se_rB (s := s) hX
    rw [q2, se_rungL hs hZ, se_cgt (by omega) (by omega) (by omega) (by omega)]
    rcases se_s2 hs with rfl | rfl
    · rw [if_pos rfl] at q1
      have := (se_svLe hX9 h9).mp (by rw [q1]; exact se_dnLe _)
      rw [se_rg0, se_rg0]; omega
    · rw [if_neg (by decide)] at q1
      have := (se_svLe h9 hX9).mp (by rw [q1]; exact se_upGe _)
      rw [se_rg1, se_rg1]; omega
  have g2 : ¬ lg_cmp (fn_X0_rungIn (fn_X4_ceilFrom (lN (s * 2 ^ 63 + Z)))) (fn_X0_rungIn (lN (s * 2 ^ 63 + Z))) < (0 : Int32) := by
    obtain ⟨X, hX, q1, q2⟩ := se_rungTk hs tC
    have hX9 := se_E63 hX
    have b1 := se_rB (s := s) hX
    rw [q2, se_rungL hs hZ, se_clt (by omega) (by omega) (by omega) (by omega)]
    rcases se_s2 hs with rfl | rfl
    · rw [if_pos rfl] at q1
      have := (se_svLe h9 hX9).mp (by rw [q1]; exact se_upGe _)
      rw [se_rg0, se_rg0]; omega
    · rw [if_neg (by decide)] at q1
      have := (se_svLe hX9 h9).mp (by rw [q1]; exact se_dnLe _)
      rw [se_rg1, se_rg1]; omega
  unfold fn_X1_areWholesRight
  rw [if_neg g1, if_neg g2, se_turnV hs h9, if_pos ((lg_cmp_eq _ _).mpr e1), if_pos ((lg_cmp_eq _ _).mpr e2)]
theorem se_okRint {s Z : Nat} (hs : s < 2) (hZ : Z ≤ se_E) : fn_X1_isRintRight (lN (s * 2 ^ 63 + Z)) = 1 := by
  have h9 := se_E63 hZ
  have hm := se_mlt h9
  have hk := se_k60 Z
  have hU := se_Upos
  by_cases c : se_m Z % 2 ^ se_k Z = 0
  · have eF : fn_X4_floorFrom (lN (s * 2 ^ 63 + Z)) = lN (s * 2 ^ 63 + Z) := by
      unfold fn_X4_floorFrom
      rw [se_restV hs h9, if_pos ((se_zr h9).mpr c)]
    have eC : fn_X4_ceilFrom (lN (s * 2 ^ 63 + Z)) = lN (s * 2 ^ 63 + Z) := by
      unfold fn_X4_ceilFrom
      rw [se_restV hs h9, if_pos ((se_zr h9).mpr c)]
    have eR : fn_X4_rintFrom (lN (s * 2 ^ 63 + Z)) = lN (s * 2 ^ 63 + Z) := by
      unfold fn_X4_rintFrom
      rw [se_restV hs h9, if_pos ((se_zr h9).mpr c)]
    have e0 : lg_cmp (lN (s * 2 ^ 63 + Z)) (lN (s * 2 ^ 63 + Z)) = 0 := (lg_cmp_eq _ _).mpr rfl
    unfold fn_X1_isRintRight
    rw [eF, eC, eR, if_pos e0, if_pos e0]
  · have hh := se_kh c
    have hk1 : 1 ≤ se_k Z := Nat.pos_of_ne_zero (fun z => c (by rw [z, Nat.pow_zero, Nat.mod_one]))
    obtain ⟨-, g1, g2, g3⟩ := se_WU h9 hh
    have hf : ¬ se_sv Z % se_U = 0 := mt g1.mpr c
    have hl := Nat.mod_lt (se_sv Z) hU
    have p1 := se_p60 hk
    have p5 : se_m Z % 2 ^ se_k Z < 2 ^ se_k Z := Nat.mod_lt _ (se_p2 _)
    have p6 : 2 ^ se_k Z = 2 * 2 ^ (se_k Z - 1) := (se_2p hk1).symm
    have tF := se_tkFloor hs hZ
    have tC := se_tkCeil hs hZ
    have tR := se_tkRint hs hZ
    have hne : se_dn (se_sv Z) ≠ se_up (se_sv Z) := by
      rw [se_up1 _ hf, Nat.add_mul]
      unfold se_dn
      omega
    have er : fn_X0_restIn (lN (s * 2 ^ 63 + Z)) = lN (se_m Z % 2 ^ se_k Z) := se_restV hs h9
    have eo : jlshl ((1 : Int64)) (fn_X0_behindIn (lN (s * 2 ^ 63 + Z))) - lN (se_m Z % 2 ^ se_k Z) = lN (2 ^ se_k Z - se_m Z % 2 ^ se_k Z) := by
      rw [se_kV hs h9, se_1shl _ hk, lN_sub (by omega)]
    unfold fn_X1_isRintRight
    rw [er, eo, se_downV hs h9]
    have k1 := se_ngt (a := se_m Z % 2 ^ se_k Z) (b := 2 ^ se_k Z - se_m Z % 2 ^ se_k Z) (by omega) (by omega)
    have k2 := se_ngt (a := 2 ^ se_k Z - se_m Z % 2 ^ se_k Z) (b := se_m Z % 2 ^ se_k Z) (by omega) (by omega)
    generalize lg_cmp (lN (se_m Z % 2 ^ se_k Z)) (lN (2 ^ se_k Z - se_m Z % 2 ^ se_k Z)) = K1 at k1 ⊢
    generalize lg_cmp (lN (2 ^ se_k Z - se_m Z % 2 ^ se_k Z)) (lN (se_m Z % 2 ^ se_k Z)) = K2 at k2 ⊢
    have w1 := lg_cmp_eq (fn_X4_rintFrom (lN (s * 2 ^ 63 + Z))) (fn_X4_floorFrom (lN (s * 2 ^ 63 + Z)))
    have w2 := lg_cmp_eq (fn_X4_rintFrom (lN (s * 2 ^ 63 + Z))) (fn_X4_ceilFrom (lN (s * 2 ^ 63 + Z)))
    have w3 := lg_cmp_eq (fn_X4_floorFrom (lN (s * 2 ^ 63 + Z))) (fn_X4_ceilFrom (lN (s * 2 ^ 63 + Z)))
    generalize lg_cmp (fn_X4_rintFrom (lN (s * 2 ^ 63 + Z))) (fn_X4_floorFrom (lN (s * 2 ^ 63 + Z))) = RF at w1 ⊢
    generalize lg_cmp (fn_X4_rintFrom (lN (s * 2 ^ 63 + Z))) (fn_X4_ceilFrom (lN (s * 2 ^ 63 + Z))) = RC at w2 ⊢
    generalize lg_cmp (fn_X4_floorFrom (lN (s * 2 ^ 63 + Z))) (fn_X4_ceilFrom (lN (s * 2 ^ 63 + Z))) = FC at w3 ⊢
    generalize fn_X4_rintFrom (lN (s * 2 ^ 63 + Z)) = R at tR w1 w2
    generalize fn_X4_floorFrom (lN (s * 2 ^ 63 + Z)) = F at tF w1 w3
    generalize fn_X4_ceilFrom (lN (s * 2 ^ 63 + Z)) = C at tC w2 w3
    have rdn : se_hv (se_sv Z) = 0 → se_rd (se_sv Z) = se_dn (se_sv Z) := fun z => by
      unfold se_rd se_dn
      rw [z, Nat.add_zero]
    have rup : se_hv (se_sv Z) = 1 → se_rd (se_sv Z) = se_up (se_sv Z) := fun z => by
      unfold se_rd
      rw [z, se_up1 _ hf]
    have hv0 : se_hv (se_sv Z) = 0 → ¬ (0 : Int32) < K1 := fun z => by
      unfold se_hv at z
      have : ¬ se_U < 2 * (se_sv Z % se_U) := fun y => by rw [if_pos y] at z; omega
      rw [k1]
      intro q
      by_cases a : se_m Z % 2 ^ se_k Z < 2 ^ (se_k Z - 1)
      · omega
      · by_cases b : se_m Z % 2 ^ se_k Z = 2 ^ (se_k Z - 1)
        · omega
        · have a1 := mt g2.mpr a
          have b1 := mt g3.mpr b
          omega
    have hv1 : se_hv (se_sv Z) = 1 → ¬ (0 : Int32) < K2 := fun z => by
      unfold se_hv at z
      have : ¬ 2 * (se_sv Z % se_U) < se_U := fun y => by
        rw [if_neg (by omega), if_neg (by omega)] at z
        omega
      rw [k2]
      intro q
      have a1 := mt g2.mp this
      omega
    have hb := se_hv1 (se_sv Z)
    have hv : se_hv (se_sv Z) = 0 ∨ se_hv (se_sv Z) = 1 := by omega
    rcases se_s2 hs with rfl | rfl
    · rw [if_pos rfl] at tF tC
      have hFC : ¬ FC = 0 := mt w3.mp (se_tkNe (by omega) tF tC hne)
      have d0 : nI 0 = 0 := rfl
      rcases hv with z | z
      · rw [rdn z] at tR
        have hRF : RF = 0 := w1.mpr (se_tkEq tR tF)
        have hK := hv0 z
        simp only [if_pos hRF, if_neg hFC, if_pos d0, if_neg hK]
      · rw [rup z] at tR
        have hRC : RC = 0 := w2.mpr (se_tkEq tR tC)
        have hRF : ¬ RF = 0 := mt w1.mp (se_tkNe (by omega) tR tF (fun q => hne q.symm))
        have hK := hv1 z
        simp only [if_neg hRF, if_pos hRC, if_neg hFC, if_pos d0, if_neg hK]
    · rw [if_neg (by decide)] at tF tC
      have hFC : ¬ FC = 0 := mt w3.mp (se_tkNe (by omega) tF tC (fun q => hne q.symm))
      have d0 : ¬ nI 1 = 0 := by decide
      rcases hv with z | z
      · rw [rdn z] at tR
        have hRC : RC = 0 := w2.mpr (se_tkEq tR tC)
        have hRF : ¬ RF = 0 := mt w1.mp (se_tkNe (by omega) tR tF hne)
        have hK := hv0 z
        simp only [if_neg hRF, if_pos hRC, if_neg hFC, if_neg d0, if_neg hK]
      · rw [rup z] at tR
        have hRF : RF = 0 := w1.mpr (se_tkEq tR tF)
        have hRC : ¬ RC = 0 := mt w2.mp (se_tkNe (by omega) tR tC (fun q => hne q.symm))
        have hK := hv1 z
        simp only [if_pos hRF, if_neg hRC, if_neg hFC, if_neg d0, if_neg hK]
theorem se_okNext {s Z : Nat} (hs : s < 2) (hZ : Z ≤ se_E) : fn_X1_areNextRight (lN (s * 2 ^ 63 + Z)) = 1 := by
  have h9 := se_E63 hZ
  have hE : se_E = 9218868437227405312 := rfl
  have hR : se_R (lN (s * 2 ^ 63 + Z)) (nI s, lN Z) := ⟨s, Z, hs, hZ, rfl, rfl⟩
  have e1 : fn_X4_downFrom (lN (s * 2 ^ 63 + Z)) = fn_X0_turned (fn_X4_upFrom (fn_X0_turned (lN (s * 2 ^ 63 + Z)))) := se_downUp hR
  have e2 : fn_X4_upFrom (lN (s * 2 ^ 63 + Z)) = fn_X0_turned (fn_X4_downFrom (fn_X0_turned (lN (s * 2 ^ 63 + Z)))) := by
    rw [se_downUp hR.turn, se_turn2, se_turn2]
  have c1 := (lg_cmp_eq _ _).mpr e1
  have c2 := (lg_cmp_eq _ _).mpr e2
  unfold fn_X1_areNextRight
  by_cases c : Z = se_E
  · rw [if_neg (fun q => (se_endV hs hZ).mp q c), if_pos c2, if_pos c1]
  · have b0 : -9218868437227405312 < se_rg s Z ∧ se_rg s Z < 9218868437227405312 := by
      unfold se_rg
      split <;> omega
    have g1 : fn_X0_rungIn (fn_X4_downFrom (fn_X4_upFrom (lN (s * 2 ^ 63 + Z)))) = fn_X0_rungIn (lN (s * 2 ^ 63 + Z)) := by
      obtain ⟨r, X, hr, hX, q1, q2⟩ := se_upRung hs hZ
      obtain ⟨t, Y, ht, hY, q3, q4⟩ := se_dnRung hr hX
      rw [q1, q3, se_rungL ht hY, se_rungL hs hZ, q4, q2]
      refine congrArg se_l ?_
      omega
    have g2 : fn_X0_rungIn (fn_X4_upFrom (fn_X4_downFrom (lN (s * 2 ^ 63 + Z)))) = fn_X0_rungIn (lN (s * 2 ^ 63 + Z)) := by
      obtain ⟨r, X, hr, hX, q1, q2⟩ := se_dnRung hs hZ
      obtain ⟨t, Y, ht, hY, q3, q4⟩ := se_upRung hr hX
      rw [q1, q3, se_rungL ht hY, se_rungL hs hZ, q4, q2]
      refine congrArg se_l ?_
      omega
    rw [if_pos ((se_endV hs hZ).mpr c), if_pos ((lg_cmp_eq _ _).mpr g1), if_pos ((lg_cmp_eq _ _).mpr g2), if_pos c2, if_pos c1]
theorem se_orI {a b : Nat} (k : Nat) (ha : a * 2 ^ k + b < 2 ^ 32) (hb : b < 2 ^ k) : nI (a * 2 ^ k) ||| nI b = nI (a * 2 ^ k + b) := by
  have e : ∀ x : Nat, x < 2 ^ 32 → (nI x).toBitVec.toNat = x := fun x hx => by
    show (BitVec.ofNat 32 x).toNat = x
    rw [BitVec.toNat_ofNat, Nat.mod_eq_of_lt hx]
  refine Int32.toBitVec_inj.mp (BitVec.eq_of_toNat_eq ?_)
  rw [Int32.toBitVec_or, BitVec.toNat_or, e _ (by omega), e _ (by omega), e _ ha, Nat.mul_comm a, Nat.two_pow_add_eq_or_of_lt hb]
theorem se_shI31 : ∀ s : Fin 2, (nI s.val) <<< (((31 : Int32)) &&& 31) = nI (s.val * 2 ^ 31) := by decide
theorem se_shI31' {s : Nat} (hs : s < 2) : (nI s) <<< (((31 : Int32)) &&& 31) = nI (s * 2 ^ 31) := se_shI31 ⟨s, hs⟩
theorem se_shI20 (a : Nat) (ha : a < 2 ^ 11) : (nI a) <<< (((20 : Int32)) &&& 31) = nI (a * 2 ^ 20) := by
  refine Int32.toBitVec_inj.mp (BitVec.eq_of_toNat_eq ?_)
  rw [Int32.toBitVec_shiftLeft, show ((20 : Int32) &&& 31).toBitVec.smod 32 = 20#32 from by decide, BitVec.shiftLeft_eq', BitVec.toNat_shiftLeft, show (20#32).toNat = 20 from rfl]
  show (BitVec.ofNat 32 a).toNat <<< 20 % 2 ^ 32 = (BitVec.ofNat 32 (a * 2 ^ 20)).toNat
  rw [BitVec.toNat_ofNat, BitVec.toNat_ofNat, Nat.mod_eq_of_lt (show a < 2 ^ 32 by omega), Nat.shiftLeft_eq]
theorem se_okParts {s Z : Nat} (hs : s < 2) (hZ : Z ≤ se_E) : fn_X1_arePartsRight (lN (s * 2 ^ 63 + Z)) = 1 := by
  have h9 := se_E63 hZ
  have d0 : fn_X0_digitsIn (lN (s * 2 ^ 63 + Z)) ((0 : Int32)) = nI s := by
    unfold fn_X0_digitsIn
    rw [if_pos (show (0 : Int32) = 0 from rfl), se_downV hs h9]
    rcases se_s2 hs with rfl | rfl <;> rfl
  have d1 : fn_X0_digitsIn (lN (s * 2 ^ 63 + Z)) ((1 : Int32)) = nI (Z / 2 ^ 52) := by
    unfold fn_X0_digitsIn
    rw [if_neg (show ¬ (1 : Int32) = 0 from by decide), if_pos (show (1 : Int32) = 1 from rfl), se_high (by omega), (se_parts hs h9).2.2]
  have d2 : fn_X0_digitsIn (lN (s * 2 ^ 63 + Z)) ((2 : Int32)) = nI (Z % 2 ^ 52 / 2 ^ 32) := by
    unfold fn_X0_digitsIn
    rw [if_neg (show ¬ (2 : Int32) = 0 from by decide), if_neg (show ¬ (2 : Int32) = 1 from by decide), if_pos (show (2 : Int32) = 2 from rfl), se_low (by omega), (se_parts hs h9).2.1, show (32 : Int32) = nI 32 from rfl, se_shr 32 (by omega) (by omega), lN_i]
  have d3 : fn_X0_digitsIn (lN (s * 2 ^ 63 + Z)) ((3 : Int32)) = nI (Z % 2 ^ 52) := by
    unfold fn_X0_digitsIn
    rw [if_neg (show ¬ (3 : Int32) = 0 from by decide), if_neg (show ¬ (3 : Int32) = 1 from by decide), if_neg (show ¬ (3 : Int32) = 2 from by decide), se_low (by omega), (se_parts hs h9).2.1, lN_i]
  have hh : Z / 2 ^ 52 < 2 ^ 11 := by omega
  have eu : ((nI s) <<< (((31 : Int32)) &&& 31) ||| (nI (Z / 2 ^ 52)) <<< (((20 : Int32)) &&& 31)) ||| nI (Z % 2 ^ 52 / 2 ^ 32) = nI (s * 2 ^ 31 + Z / 2 ^ 52 * 2 ^ 20 + Z % 2 ^ 52 / 2 ^ 32) := by
    rw [se_shI31' hs, se_shI20 _ hh]
    rw [se_orI 31 (by omega) (by omega), show s * 2 ^ 31 + Z / 2 ^ 52 * 2 ^ 20 = (s * 2 ^ 11 + Z / 2 ^ 52) * 2 ^ 20 by omega, se_orI 20 (by omega) (by omega)]
  have e1 : (jlshl (((((fn_X0_digitsIn (lN (s * 2 ^ 63 + Z)) ((0 : Int32))) <<< (((31 : Int32)) &&& 31)) ||| ((fn_X0_digitsIn (lN (s * 2 ^ 63 + Z)) ((1 : Int32))) <<< (((20 : Int32)) &&& 31))) ||| (fn_X0_digitsIn (lN (s * 2 ^ 63 + Z)) ((2 : Int32)))).toInt64) ((32 : Int32))) ||| (((fn_X0_digitsIn (lN (s * 2 ^ 63 + Z)) ((3 : Int32))).toInt64) &&& ((4294967295 : Int64))) = lN (s * 2 ^ 63 + Z) := by
    rw [d0, d1, d2, d3, eu, se_V6]
    refine congrArg lN ?_
    unfold se_T
    show (BitVec.ofNat 32 (s * 2 ^ 31 + Z / 2 ^ 52 * 2 ^ 20 + Z % 2 ^ 52 / 2 ^ 32)).toNat * 2 ^ 32 + (BitVec.ofNat 32 (Z % 2 ^ 52)).toNat = _
    rw [BitVec.toNat_ofNat, BitVec.toNat_ofNat]
    omega
  have e2 : fn_X0_joined (fn_X0_sizeIn (lN (s * 2 ^ 63 + Z))) (lN (s * 2 ^ 63 + Z)) = lN (s * 2 ^ 63 + Z) := by
    rw [se_sizeV hs h9, se_joinV hs h9 h9]
  have e3 : fn_X4_stepFrom (fn_X0_turned (lN (s * 2 ^ 63 + Z))) = fn_X4_stepFrom (lN (s * 2 ^ 63 + Z)) := by
    have hs1 : 1 - s < 2 := by omega
    rw [se_turnV hs h9]
    unfold fn_X4_stepFrom
    rw [se_powV hs1 h9, se_powV hs h9]
    by_cases c : Z = se_E
    · rw [if_neg (fun q => (se_endV hs hZ).mp q c), if_neg (fun q => (se_endV hs1 hZ).mp q c)]
    · rw [if_pos ((se_endV hs hZ).mpr c), if_pos ((se_endV hs1 hZ).mpr c)]
  unfold fn_X1_arePartsRight
  rw [e1, e2, e3, if_pos ((lg_cmp_eq _ _).mpr rfl), if_pos ((lg_cmp_eq _ _).mpr rfl), if_pos ((lg_cmp_eq _ _).mpr rfl)]
