theorem zr_in (a : Int32) : ((0 : Int32) ≤ a ∧ a < 6 → fn_X9_isNo a = 0 ∧ fn_X6_requireCell a = .inr ((), ())) ∧ (¬ ((0 : Int32) ≤ a ∧ a < 6) → fn_X9_isNo a = 1 ∧ fn_X6_requireCell a = .inl "java/lang/IndexOutOfBoundsException") := by
  have e0 : (0 : Int32).toInt = 0 := rfl
  have e5 : (5 : Int32).toInt = 5 := rfl
  have e6 : (6 : Int32).toInt = 6 := rfl
  unfold fn_X9_isNo fn_X9_isOf fn_X6_requireCell
  simp only [Int32.lt_iff_toInt_lt, Int32.le_iff_toInt_le, e0, e5, e6]
  refine ⟨fun h => ⟨?_, ?_⟩, fun h => ⟨?_, ?_⟩⟩
  · rw [if_neg (show ¬ a.toInt < 0 by omega), if_neg (show ¬ 5 < a.toInt by omega)]
    rfl
  · rw [if_neg (show ¬ a.toInt < 0 by omega), if_pos (show a.toInt < 6 by omega)]
  · by_cases q : a.toInt < 0
    · rw [if_pos q]; rfl
    · rw [if_neg q, if_pos (show 5 < a.toInt by omega)]; rfl
  · by_cases q : a.toInt < 0
    · rw [if_pos q]
    · rw [if_neg q, if_neg (show ¬ a.toInt < 6 by omega)]
theorem kd_endless : ∀ b : Int32, b = 0 ∨ b = 1 → fn_X0_kindIn (fn_X0_withSide 9218868437227405312 b) = fn_X8_kind (fn_X9_one b, 9218868437227405312) := by
  rintro b (rfl | rfl) <;> decide +kernel
/-- endless: both know the same cells, and tell the same kind -/
theorem sm_endless (a b : Int32) (hb : b = 0 ∨ b = 1) (u : ky_BS) (nn : Int64) (w : ky_MV) : (fn_X9_endless a b w).2.1 = (ky_lw (fn_X6_endless a b u) u nn).1 ∧ ((ky_lw (fn_X6_endless a b u) u nn).1 = 0 → (ky_lw (fn_X6_endless a b u) u nn).2.2 = (fn_X9_endless a b w).1.toInt64) := by
  obtain ⟨h1, h2⟩ := zr_in a
  by_cases h : (0 : Int32) ≤ a ∧ a < 6
  · obtain ⟨k1, k2⟩ := h1 h
    have e1 : ky_lw (fn_X6_endless a b u) u nn = (0, (fn_X6_give a (fn_X0_withSide 9218868437227405312 b) u).2, (fn_X6_give a (fn_X0_withSide 9218868437227405312 b) u).1.toInt64) := by
      unfold fn_X6_endless
      rw [k2]
      rfl
    have e2 : fn_X9_endless a b w = fn_X9_give a (fn_X9_one b, 9218868437227405312) (0, w.2.1, w.2.2.1, w.2.2.2.1, w.2.2.2.2) := by
      unfold fn_X9_endless
      rw [k1, if_pos (show jst 0 = 0 from rfl)]
      rfl
    rw [e1, e2]
    refine ⟨rfl, fun _ => ?_⟩
    show (fn_X0_kindIn (fn_X0_withSide 9218868437227405312 b)).toInt64 = (fn_X8_kind (fn_X9_one b, 9218868437227405312)).toInt64
    rw [kd_endless b hb]
  · obtain ⟨k1, k2⟩ := h2 h
    have e1 : ky_lw (fn_X6_endless a b u) u nn = (1, u, nn) := by
      unfold fn_X6_endless
      rw [k2]
      exact ky_lw_io
    have e2 : fn_X9_endless a b w = (0, (1, w.2.1, w.2.2.1, w.2.2.2.1, w.2.2.2.2)) := by
      unfold fn_X9_endless
      rw [k1, if_neg (show ¬ jst 1 = 0 by decide)]
      rfl
    rw [e1, e2]
    exact ⟨rfl, fun z => absurd (show (1 : Int32) = 0 from z) (by decide)⟩
