theorem zr_in (a : Int32) : ((0 : Int32) ≤ a ∧ a < 6 → fn_X9_isNo a = 0 ∧ fn_X6_requireCell a = .inr ((), ())) ∧ (¬ ((0 : Int32) ≤ a ∧ a < 6) → fn_X9_isNo a = 1 ∧ fn_X6_requireCell a = .inl "java/lang/IndexOutOfBoundsException") := by
  have e0 : (0 : Int32).toInt = 0 := rfl
  have e5 : (5 : Int32).toInt = 5 := rfl
  have e6 : (6 : Int32).toInt = 6 := rfl
  unfold fn_X9_isNo fn_X9_isOf fn_X6_requireCell
  simp only [Int32.lt_iff_toInt_lt, Int32.le_iff_toInt_le, e0, e5, e6]
  refine ⟨fun h => ⟨?_, ?_⟩, fun h => ⟨?_, ?_⟩⟩
  · rw [if_neg (show ¬ a.toInt < 0 by omega), if_neg (show ¬ 5 < a.toInt by omega)]
    rfl
  · rw [if_neg (show ¬ a.toInt < 0 by omega), if_pos (show a.toInt < 6 by omega)]
  · by_cases q : a.toInt < 0
    · rw [if_pos q]; rfl
    · rw [if_neg q, if_pos (show 5 < a.toInt by omega)]; rfl
  · by_cases q : a.toInt < 0
    · rw [if_pos q]
    · rw [if_neg q, if_neg (show ¬ a.toInt < 6 by omega)]
theorem sp_kind : (List.range 12).all (fun j => decide (fn_X0_kindIn (fn_X0_withSide (fn_X2_nearestTo (kf_SF j) (kf_SP j)) 0) = fn_X8_kind (fn_X9_one 0, fn_X9_sampled (nI j)) ∧ fn_X0_kindIn (fn_X0_withSide (fn_X2_nearestTo (kf_SF j) (kf_SP j)) 1) = fn_X8_kind (fn_X9_one 1, fn_X9_sampled (nI j)))) = true := by decide +kernel
theorem sp_kd (a b : Int32) (hb : b = 0 ∨ b = 1) (h0 : (0 : Int32) ≤ a) (h1 : a ≤ 11) : fn_X0_kindIn (fn_X0_withSide (fn_X2_nearestTo (kf_SF a.toNatClampNeg) (kf_SP a.toNatClampNeg)) b) = fn_X8_kind (fn_X9_one b, fn_X9_sampled a) := by
  obtain ⟨j, hj, rfl⟩ := nI_of2 (x := a) (M := 11) (n := 11) rfl (fun z => by
    have e0 : (0 : Int32).toInt = 0 := rfl
    rw [Int32.lt_iff_toInt_lt] at z
    rw [Int32.le_iff_toInt_le] at h0
    omega) h1
  have h := List.all_eq_true.mp sp_kind j (List.mem_range.mpr (by omega))
  have h := of_decide_eq_true h
  rw [nI_clamp (by omega)]
  rcases hb with rfl | rfl
  · exact h.1
  · exact h.2
theorem zr_of (a lo hi : Int32) : (lo ≤ a ∧ a ≤ hi → fn_X9_isOf a lo hi = 1 ∧ fn_X6_requireWithin a lo hi = .inr ((), ())) ∧ (¬ (lo ≤ a ∧ a ≤ hi) → fn_X9_isOf a lo hi = 0 ∧ fn_X6_requireWithin a lo hi = .inl "java/lang/IllegalArgumentException") := by
  unfold fn_X9_isOf fn_X6_requireWithin
  simp only [Int32.lt_iff_toInt_lt, Int32.le_iff_toInt_le]
  refine ⟨fun h => ⟨?_, ?_⟩, fun h => ⟨?_, ?_⟩⟩
  · rw [if_neg (show ¬ a.toInt < lo.toInt by omega), if_neg (show ¬ hi.toInt < a.toInt by omega)]
  · rw [if_neg (show ¬ a.toInt < lo.toInt by omega), if_pos (show a.toInt ≤ hi.toInt by omega)]
  · by_cases q : a.toInt < lo.toInt
    · rw [if_pos q]
    · rw [if_neg q, if_pos (show hi.toInt < a.toInt by omega)]
  · by_cases q : a.toInt < lo.toInt
    · rw [if_pos q]
    · rw [if_neg q, if_neg (show ¬ a.toInt ≤ hi.toInt by omega)]
/-- sample: both know the same cells and samples, and tell the same kind -/
theorem sm_sample (a k b : Int32) (hb : b = 0 ∨ b = 1) (u : ky_BS) (nn : Int64) (w : ky_MV) : (fn_X9_sample a k b w).2.1 = (ky_lw (fn_X6_sample a k b u) u nn).1 ∧ ((ky_lw (fn_X6_sample a k b u) u nn).1 = 0 → (ky_lw (fn_X6_sample a k b u) u nn).2.2 = (fn_X9_sample a k b w).1.toInt64) := by
  obtain ⟨h1, h2⟩ := zr_in a
  obtain ⟨h3, h4⟩ := zr_of k 0 11
  by_cases h : (0 : Int32) ≤ a ∧ a < 6
  · obtain ⟨k1, k2⟩ := h1 h
    by_cases h9 : (0 : Int32) ≤ k ∧ k ≤ 11
    · obtain ⟨k3, k4⟩ := h3 h9
      have e1 : ky_lw (fn_X6_sample a k b u) u nn = (0, (fn_X6_give a (fn_X0_withSide (fn_X2_nearestTo (kf_SF k.toNatClampNeg) (kf_SP k.toNatClampNeg)) b) u).2, (fn_X6_give a (fn_X0_withSide (fn_X2_nearestTo (kf_SF k.toNatClampNeg) (kf_SP k.toNatClampNeg)) b) u).1.toInt64) := by
        unfold fn_X6_sample
        rw [k2, show ((12 : Int32)) - ((1 : Int32)) = 11 from rfl, k4]
        rfl
      have e2 : fn_X9_sample a k b w = fn_X9_give a (fn_X9_one b, fn_X9_sampled k) (0, w.2.1, w.2.2.1, w.2.2.2.1, w.2.2.2.2) := by
        unfold fn_X9_sample
        rw [k1, k3, if_pos (show jst 0 = 0 from rfl), if_neg (show ¬ (1 : Int32) = 0 by decide), if_pos (show jrr (jrt 0 2 (jst 0)) = 0 from rfl)]
        rfl
      rw [e1, e2]
      refine ⟨rfl, fun _ => ?_⟩
      show (fn_X0_kindIn (fn_X0_withSide (fn_X2_nearestTo (kf_SF k.toNatClampNeg) (kf_SP k.toNatClampNeg)) b)).toInt64 = (fn_X8_kind (fn_X9_one b, fn_X9_sampled k)).toInt64
      rw [sp_kd k b hb h9.1 h9.2]
    · obtain ⟨k3, k4⟩ := h4 h9
      have e1 : ky_lw (fn_X6_sample a k b u) u nn = (2, u, nn) := by
        unfold fn_X6_sample
        rw [k2, show ((12 : Int32)) - ((1 : Int32)) = 11 from rfl, k4]
        exact ky_lw_ia
      have e2 : fn_X9_sample a k b w = (0, (2, w.2.1, w.2.2.1, w.2.2.2.1, w.2.2.2.2)) := by
        unfold fn_X9_sample
        rw [k1, k3, if_pos (show jst 0 = 0 from rfl), if_pos rfl, if_neg (show ¬ jrr (jrt 1 2 (jst 0)) = 0 by decide)]
        rfl
      rw [e1, e2]
      exact ⟨rfl, fun z => absurd (show (2 : Int32) = 0 from z) (by decide)⟩
  · obtain ⟨k1, k2⟩ := h2 h
    have e1 : ky_lw (fn_X6_sample a k b u) u nn = (1, u, nn) := by
      unfold fn_X6_sample
      rw [k2]
      exact ky_lw_io
    have e2 : fn_X9_sample a k b w = (0, (1, w.2.1, w.2.2.1, w.2.2.2.1, w.2.2.2.2)) := by
      unfold fn_X9_sample
      rw [k1, if_neg (show ¬ jst 1 = 0 by decide)]
      rfl
    rw [e1, e2]
    exact ⟨rfl, fun z => absurd (show (1 : Int32) = 0 from z) (by decide)⟩
