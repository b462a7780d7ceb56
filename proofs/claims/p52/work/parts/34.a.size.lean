set_option linter.constructorNameAsVariable false in
set_option maxHeartbeats 4000000 in
set_option maxRecDepth 100000 in
theorem mt_J6_stringSize_0f7a4 (l : Launch) (G : ky_G) (a0 : Int32) (sz : Nat)  : Met l my_J6_stringSize_0f7a4 (.code my_J6_stringSize_0f7a4 prog_18_method_13_code 4 (some .int) :: ky_B) { frames := 0, cells := 0, slots := 0, locals := 0 } (ky_P G [.int (a0)] ([]) sz (fun _ => True)) (ky_Q (S := Unit) G (va_A ([]) sz) (fun v _ => v = some (.int (nI (ky_szI a0)))) (fun _ => []) (fun _ _ => True)) (0) (0) (va_A ([]) sz) := by
  refine ky_start (by decide) (Nat.le_of_ble_eq_true rfl) (fun p e s m below meth c F hE A hAe hsz hA hfr hP hD hS hX ls hl => ?_)
  obtain ⟨hx, hb, hml, hown, hr, hlocks, hts⟩ := id F
  have hl : lv_has ls 4 [(0, .int (a0))] := hl
  have hP : va_P G.1 kcl [] s.heap := hP
  have hD : va_D A [] := hD
  refine lv_iconst (v := 1) hx hb dc_J6_stringSize_0f7a4_0 (by decide) ?_
  refine lv_istore_n (lv' := [(1, .int ((1 : Int32))), (0, .int (a0))]) hx hb dc_J6_stringSize_0f7a4_1 rfl hl (by decide) rfl (fun ls hl => ?_)
  refine lv_iload_n hx hb dc_J6_stringSize_0f7a4_2 rfl (lv_at hl 1 rfl) ?_
  refine lv_if_lt (tgt := 11) hx hb dc_J6_stringSize_0f7a4_3 (by decide) (fun c_0 => ?_) (fun c_0 => ?_)
  · skip
    refine lv_bipush (v := (-10)) hx hb dc_J6_stringSize_0f7a4_11 (by decide) ?_
    refine lv_istore_n (lv' := [(2, .int ((-10 : Int32))), (1, .int ((1 : Int32))), (0, .int (a0))]) hx hb dc_J6_stringSize_0f7a4_13 rfl hl (by decide) rfl (fun ls hl => ?_)
    refine lv_iconst (v := 1) hx hb dc_J6_stringSize_0f7a4_14 (by decide) ?_
    refine lv_istore_n (lv' := [(3, .int ((1 : Int32))), (2, .int ((-10 : Int32))), (1, .int ((1 : Int32))), (0, .int (a0))]) hx hb dc_J6_stringSize_0f7a4_15 rfl hl (by decide) rfl (fun ls hl => ?_)
    refine lv_iload_n hx hb dc_J6_stringSize_0f7a4_16 rfl (lv_at hl 0 rfl) ?_
    refine lv_bipush (v := 10) hx hb dc_J6_stringSize_0f7a4_17 (by decide) ?_
    refine lv_icmp_ge (tgt := 42) hx hb dc_J6_stringSize_0f7a4_19 (by decide) (fun c_1 => absurd c_1 (by decide)) (fun _ => ?_)
    refine lv_iload_n hx hb dc_J6_stringSize_0f7a4_22 rfl (lv_at hl 3 rfl) ?_
    refine lv_iload_n hx hb dc_J6_stringSize_0f7a4_23 rfl (lv_at hl 1 rfl) ?_
    refine lv_icmp_le (tgt := 31) hx hb dc_J6_stringSize_0f7a4_24 (by decide) (fun c_2 => ?_) (fun c_2 => ?_)
    · skip
      refine lv_bipush (v := 10) hx hb dc_J6_stringSize_0f7a4_31 (by decide) ?_
      refine lv_iload_n hx hb dc_J6_stringSize_0f7a4_33 rfl (lv_at hl 1 rfl) ?_
      refine lv_imul hx hb dc_J6_stringSize_0f7a4_34 ?_
      rw [show ((((10 : Int32)) * ((-10 : Int32))) : Int32) = (-100 : Int32) from by decide]
      refine lv_istore_n (lv' := [(2, .int ((-100 : Int32))), (3, .int ((1 : Int32))), (1, .int ((1 : Int32))), (0, .int (a0))]) hx hb dc_J6_stringSize_0f7a4_35 rfl hl (by decide) rfl (fun ls hl => ?_)
      refine lv_iinc (v := (2 : Int32)) (lv' := [(3, .int ((2 : Int32))), (2, .int ((-100 : Int32))), (1, .int ((1 : Int32))), (0, .int (a0))]) hx hb dc_J6_stringSize_0f7a4_36 hl (k := 1) rfl (by decide) (by decide) rfl (fun ls hl => ?_)
      refine lv_goto (tgt := 16) hx hb dc_J6_stringSize_0f7a4_39 (by decide) ?_
      refine lv_iload_n hx hb dc_J6_stringSize_0f7a4_16 rfl (lv_at hl 0 rfl) ?_
      refine lv_bipush (v := 10) hx hb dc_J6_stringSize_0f7a4_17 (by decide) ?_
      refine lv_icmp_ge (tgt := 42) hx hb dc_J6_stringSize_0f7a4_19 (by decide) (fun c_3 => absurd c_3 (by decide)) (fun _ => ?_)
      refine lv_iload_n hx hb dc_J6_stringSize_0f7a4_22 rfl (lv_at hl 3 rfl) ?_
      refine lv_iload_n hx hb dc_J6_stringSize_0f7a4_23 rfl (lv_at hl 1 rfl) ?_
      refine lv_icmp_le (tgt := 31) hx hb dc_J6_stringSize_0f7a4_24 (by decide) (fun c_4 => ?_) (fun c_4 => ?_)
      · skip
        refine lv_bipush (v := 10) hx hb dc_J6_stringSize_0f7a4_31 (by decide) ?_
        refine lv_iload_n hx hb dc_J6_stringSize_0f7a4_33 rfl (lv_at hl 1 rfl) ?_
        refine lv_imul hx hb dc_J6_stringSize_0f7a4_34 ?_
        rw [show ((((10 : Int32)) * ((-100 : Int32))) : Int32) = (-1000 : Int32) from by decide]
        refine lv_istore_n (lv' := [(2, .int ((-1000 : Int32))), (3, .int ((2 : Int32))), (1, .int ((1 : Int32))), (0, .int (a0))]) hx hb dc_J6_stringSize_0f7a4_35 rfl hl (by decide) rfl (fun ls hl => ?_)
        refine lv_iinc (v := (3 : Int32)) (lv' := [(3, .int ((3 : Int32))), (2, .int ((-1000 : Int32))), (1, .int ((1 : Int32))), (0, .int (a0))]) hx hb dc_J6_stringSize_0f7a4_36 hl (k := 1) rfl (by decide) (by decide) rfl (fun ls hl => ?_)
        refine lv_goto (tgt := 16) hx hb dc_J6_stringSize_0f7a4_39 (by decide) ?_
        refine lv_iload_n hx hb dc_J6_stringSize_0f7a4_16 rfl (lv_at hl 0 rfl) ?_
        refine lv_bipush (v := 10) hx hb dc_J6_stringSize_0f7a4_17 (by decide) ?_
        refine lv_icmp_ge (tgt := 42) hx hb dc_J6_stringSize_0f7a4_19 (by decide) (fun c_5 => absurd c_5 (by decide)) (fun _ => ?_)
        refine lv_iload_n hx hb dc_J6_stringSize_0f7a4_22 rfl (lv_at hl 3 rfl) ?_
        refine lv_iload_n hx hb dc_J6_stringSize_0f7a4_23 rfl (lv_at hl 1 rfl) ?_
        refine lv_icmp_le (tgt := 31) hx hb dc_J6_stringSize_0f7a4_24 (by decide) (fun c_6 => ?_) (fun c_6 => ?_)
        · skip
          refine lv_bipush (v := 10) hx hb dc_J6_stringSize_0f7a4_31 (by decide) ?_
          refine lv_iload_n hx hb dc_J6_stringSize_0f7a4_33 rfl (lv_at hl 1 rfl) ?_
          refine lv_imul hx hb dc_J6_stringSize_0f7a4_34 ?_
          rw [show ((((10 : Int32)) * ((-1000 : Int32))) : Int32) = (-10000 : Int32) from by decide]
          refine lv_istore_n (lv' := [(2, .int ((-10000 : Int32))), (3, .int ((3 : Int32))), (1, .int ((1 : Int32))), (0, .int (a0))]) hx hb dc_J6_stringSize_0f7a4_35 rfl hl (by decide) rfl (fun ls hl => ?_)
          refine lv_iinc (v := (4 : Int32)) (lv' := [(3, .int ((4 : Int32))), (2, .int ((-10000 : Int32))), (1, .int ((1 : Int32))), (0, .int (a0))]) hx hb dc_J6_stringSize_0f7a4_36 hl (k := 1) rfl (by decide) (by decide) rfl (fun ls hl => ?_)
          refine lv_goto (tgt := 16) hx hb dc_J6_stringSize_0f7a4_39 (by decide) ?_
          refine lv_iload_n hx hb dc_J6_stringSize_0f7a4_16 rfl (lv_at hl 0 rfl) ?_
          refine lv_bipush (v := 10) hx hb dc_J6_stringSize_0f7a4_17 (by decide) ?_
          refine lv_icmp_ge (tgt := 42) hx hb dc_J6_stringSize_0f7a4_19 (by decide) (fun c_7 => absurd c_7 (by decide)) (fun _ => ?_)
          refine lv_iload_n hx hb dc_J6_stringSize_0f7a4_22 rfl (lv_at hl 3 rfl) ?_
          refine lv_iload_n hx hb dc_J6_stringSize_0f7a4_23 rfl (lv_at hl 1 rfl) ?_
          refine lv_icmp_le (tgt := 31) hx hb dc_J6_stringSize_0f7a4_24 (by decide) (fun c_8 => ?_) (fun c_8 => ?_)
          · skip
            refine lv_bipush (v := 10) hx hb dc_J6_stringSize_0f7a4_31 (by decide) ?_
            refine lv_iload_n hx hb dc_J6_stringSize_0f7a4_33 rfl (lv_at hl 1 rfl) ?_
            refine lv_imul hx hb dc_J6_stringSize_0f7a4_34 ?_
            rw [show ((((10 : Int32)) * ((-10000 : Int32))) : Int32) = (-100000 : Int32) from by decide]
            refine lv_istore_n (lv' := [(2, .int ((-100000 : Int32))), (3, .int ((4 : Int32))), (1, .int ((1 : Int32))), (0, .int (a0))]) hx hb dc_J6_stringSize_0f7a4_35 rfl hl (by decide) rfl (fun ls hl => ?_)
            refine lv_iinc (v := (5 : Int32)) (lv' := [(3, .int ((5 : Int32))), (2, .int ((-100000 : Int32))), (1, .int ((1 : Int32))), (0, .int (a0))]) hx hb dc_J6_stringSize_0f7a4_36 hl (k := 1) rfl (by decide) (by decide) rfl (fun ls hl => ?_)
            refine lv_goto (tgt := 16) hx hb dc_J6_stringSize_0f7a4_39 (by decide) ?_
            refine lv_iload_n hx hb dc_J6_stringSize_0f7a4_16 rfl (lv_at hl 0 rfl) ?_
            refine lv_bipush (v := 10) hx hb dc_J6_stringSize_0f7a4_17 (by decide) ?_
            refine lv_icmp_ge (tgt := 42) hx hb dc_J6_stringSize_0f7a4_19 (by decide) (fun c_9 => absurd c_9 (by decide)) (fun _ => ?_)
            refine lv_iload_n hx hb dc_J6_stringSize_0f7a4_22 rfl (lv_at hl 3 rfl) ?_
            refine lv_iload_n hx hb dc_J6_stringSize_0f7a4_23 rfl (lv_at hl 1 rfl) ?_
            refine lv_icmp_le (tgt := 31) hx hb dc_J6_stringSize_0f7a4_24 (by decide) (fun c_10 => ?_) (fun c_10 => ?_)
            · skip
              refine lv_bipush (v := 10) hx hb dc_J6_stringSize_0f7a4_31 (by decide) ?_
              refine lv_iload_n hx hb dc_J6_stringSize_0f7a4_33 rfl (lv_at hl 1 rfl) ?_
              refine lv_imul hx hb dc_J6_stringSize_0f7a4_34 ?_
              rw [show ((((10 : Int32)) * ((-100000 : Int32))) : Int32) = (-1000000 : Int32) from by decide]
              refine lv_istore_n (lv' := [(2, .int ((-1000000 : Int32))), (3, .int ((5 : Int32))), (1, .int ((1 : Int32))), (0, .int (a0))]) hx hb dc_J6_stringSize_0f7a4_35 rfl hl (by decide) rfl (fun ls hl => ?_)
              refine lv_iinc (v := (6 : Int32)) (lv' := [(3, .int ((6 : Int32))), (2, .int ((-1000000 : Int32))), (1, .int ((1 : Int32))), (0, .int (a0))]) hx hb dc_J6_stringSize_0f7a4_36 hl (k := 1) rfl (by decide) (by decide) rfl (fun ls hl => ?_)
              refine lv_goto (tgt := 16) hx hb dc_J6_stringSize_0f7a4_39 (by decide) ?_
              refine lv_iload_n hx hb dc_J6_stringSize_0f7a4_16 rfl (lv_at hl 0 rfl) ?_
              refine lv_bipush (v := 10) hx hb dc_J6_stringSize_0f7a4_17 (by decide) ?_
              refine lv_icmp_ge (tgt := 42) hx hb dc_J6_stringSize_0f7a4_19 (by decide) (fun c_11 => absurd c_11 (by decide)) (fun _ => ?_)
              refine lv_iload_n hx hb dc_J6_stringSize_0f7a4_22 rfl (lv_at hl 3 rfl) ?_
              refine lv_iload_n hx hb dc_J6_stringSize_0f7a4_23 rfl (lv_at hl 1 rfl) ?_
              refine lv_icmp_le (tgt := 31) hx hb dc_J6_stringSize_0f7a4_24 (by decide) (fun c_12 => ?_) (fun c_12 => ?_)
              · skip
                refine lv_bipush (v := 10) hx hb dc_J6_stringSize_0f7a4_31 (by decide) ?_
                refine lv_iload_n hx hb dc_J6_stringSize_0f7a4_33 rfl (lv_at hl 1 rfl) ?_
                refine lv_imul hx hb dc_J6_stringSize_0f7a4_34 ?_
                rw [show ((((10 : Int32)) * ((-1000000 : Int32))) : Int32) = (-10000000 : Int32) from by decide]
                refine lv_istore_n (lv' := [(2, .int ((-10000000 : Int32))), (3, .int ((6 : Int32))), (1, .int ((1 : Int32))), (0, .int (a0))]) hx hb dc_J6_stringSize_0f7a4_35 rfl hl (by decide) rfl (fun ls hl => ?_)
                refine lv_iinc (v := (7 : Int32)) (lv' := [(3, .int ((7 : Int32))), (2, .int ((-10000000 : Int32))), (1, .int ((1 : Int32))), (0, .int (a0))]) hx hb dc_J6_stringSize_0f7a4_36 hl (k := 1) rfl (by decide) (by decide) rfl (fun ls hl => ?_)
                refine lv_goto (tgt := 16) hx hb dc_J6_stringSize_0f7a4_39 (by decide) ?_
                refine lv_iload_n hx hb dc_J6_stringSize_0f7a4_16 rfl (lv_at hl 0 rfl) ?_
                refine lv_bipush (v := 10) hx hb dc_J6_stringSize_0f7a4_17 (by decide) ?_
                refine lv_icmp_ge (tgt := 42) hx hb dc_J6_stringSize_0f7a4_19 (by decide) (fun c_13 => absurd c_13 (by decide)) (fun _ => ?_)
                refine lv_iload_n hx hb dc_J6_stringSize_0f7a4_22 rfl (lv_at hl 3 rfl) ?_
                refine lv_iload_n hx hb dc_J6_stringSize_0f7a4_23 rfl (lv_at hl 1 rfl) ?_
                refine lv_icmp_le (tgt := 31) hx hb dc_J6_stringSize_0f7a4_24 (by decide) (fun c_14 => ?_) (fun c_14 => ?_)
                · skip
                  refine lv_bipush (v := 10) hx hb dc_J6_stringSize_0f7a4_31 (by decide) ?_
                  refine lv_iload_n hx hb dc_J6_stringSize_0f7a4_33 rfl (lv_at hl 1 rfl) ?_
                  refine lv_imul hx hb dc_J6_stringSize_0f7a4_34 ?_
                  rw [show ((((10 : Int32)) * ((-10000000 : Int32))) : Int32) = (-100000000 : Int32) from by decide]
                  refine lv_istore_n (lv' := [(2, .int ((-100000000 : Int32))), (3, .int ((7 : Int32))), (1, .int ((1 : Int32))), (0, .int (a0))]) hx hb dc_J6_stringSize_0f7a4_35 rfl hl (by decide) rfl (fun ls hl => ?_)
                  refine lv_iinc (v := (8 : Int32)) (lv' := [(3, .int ((8 : Int32))), (2, .int ((-100000000 : Int32))), (1, .int ((1 : Int32))), (0, .int (a0))]) hx hb dc_J6_stringSize_0f7a4_36 hl (k := 1) rfl (by decide) (by decide) rfl (fun ls hl => ?_)
                  refine lv_goto (tgt := 16) hx hb dc_J6_stringSize_0f7a4_39 (by decide) ?_
                  refine lv_iload_n hx hb dc_J6_stringSize_0f7a4_16 rfl (lv_at hl 0 rfl) ?_
                  refine lv_bipush (v := 10) hx hb dc_J6_stringSize_0f7a4_17 (by decide) ?_
                  refine lv_icmp_ge (tgt := 42) hx hb dc_J6_stringSize_0f7a4_19 (by decide) (fun c_15 => absurd c_15 (by decide)) (fun _ => ?_)
                  refine lv_iload_n hx hb dc_J6_stringSize_0f7a4_22 rfl (lv_at hl 3 rfl) ?_
                  refine lv_iload_n hx hb dc_J6_stringSize_0f7a4_23 rfl (lv_at hl 1 rfl) ?_
                  refine lv_icmp_le (tgt := 31) hx hb dc_J6_stringSize_0f7a4_24 (by decide) (fun c_16 => ?_) (fun c_16 => ?_)
                  · skip
                    refine lv_bipush (v := 10) hx hb dc_J6_stringSize_0f7a4_31 (by decide) ?_
                    refine lv_iload_n hx hb dc_J6_stringSize_0f7a4_33 rfl (lv_at hl 1 rfl) ?_
                    refine lv_imul hx hb dc_J6_stringSize_0f7a4_34 ?_
                    rw [show ((((10 : Int32)) * ((-100000000 : Int32))) : Int32) = (-1000000000 : Int32) from by decide]
                    refine lv_istore_n (lv' := [(2, .int ((-1000000000 : Int32))), (3, .int ((8 : Int32))), (1, .int ((1 : Int32))), (0, .int (a0))]) hx hb dc_J6_stringSize_0f7a4_35 rfl hl (by decide) rfl (fun ls hl => ?_)
                    refine lv_iinc (v := (9 : Int32)) (lv' := [(3, .int ((9 : Int32))), (2, .int ((-1000000000 : Int32))), (1, .int ((1 : Int32))), (0, .int (a0))]) hx hb dc_J6_stringSize_0f7a4_36 hl (k := 1) rfl (by decide) (by decide) rfl (fun ls hl => ?_)
                    refine lv_goto (tgt := 16) hx hb dc_J6_stringSize_0f7a4_39 (by decide) ?_
                    refine lv_iload_n hx hb dc_J6_stringSize_0f7a4_16 rfl (lv_at hl 0 rfl) ?_
                    refine lv_bipush (v := 10) hx hb dc_J6_stringSize_0f7a4_17 (by decide) ?_
                    refine lv_icmp_ge (tgt := 42) hx hb dc_J6_stringSize_0f7a4_19 (by decide) (fun c_17 => absurd c_17 (by decide)) (fun _ => ?_)
                    refine lv_iload_n hx hb dc_J6_stringSize_0f7a4_22 rfl (lv_at hl 3 rfl) ?_
                    refine lv_iload_n hx hb dc_J6_stringSize_0f7a4_23 rfl (lv_at hl 1 rfl) ?_
                    refine lv_icmp_le (tgt := 31) hx hb dc_J6_stringSize_0f7a4_24 (by decide) (fun c_18 => ?_) (fun c_18 => ?_)
                    · skip
                      refine lv_bipush (v := 10) hx hb dc_J6_stringSize_0f7a4_31 (by decide) ?_
                      refine lv_iload_n hx hb dc_J6_stringSize_0f7a4_33 rfl (lv_at hl 1 rfl) ?_
                      refine lv_imul hx hb dc_J6_stringSize_0f7a4_34 ?_
                      rw [show ((((10 : Int32)) * ((-1000000000 : Int32))) : Int32) = (-1410065408 : Int32) from by decide]
                      refine lv_istore_n (lv' := [(2, .int ((-1410065408 : Int32))), (3, .int ((9 : Int32))), (1, .int ((1 : Int32))), (0, .int (a0))]) hx hb dc_J6_stringSize_0f7a4_35 rfl hl (by decide) rfl (fun ls hl => ?_)
                      refine lv_iinc (v := (10 : Int32)) (lv' := [(3, .int ((10 : Int32))), (2, .int ((-1410065408 : Int32))), (1, .int ((1 : Int32))), (0, .int (a0))]) hx hb dc_J6_stringSize_0f7a4_36 hl (k := 1) rfl (by decide) (by decide) rfl (fun ls hl => ?_)
                      refine lv_goto (tgt := 16) hx hb dc_J6_stringSize_0f7a4_39 (by decide) ?_
                      refine lv_iload_n hx hb dc_J6_stringSize_0f7a4_16 rfl (lv_at hl 0 rfl) ?_
                      refine lv_bipush (v := 10) hx hb dc_J6_stringSize_0f7a4_17 (by decide) ?_
                      refine lv_icmp_ge (tgt := 42) hx hb dc_J6_stringSize_0f7a4_19 (by decide) (fun _ => ?_) (fun c_19 => absurd c_19 (by decide))
                      refine lv_bipush (v := 10) hx hb dc_J6_stringSize_0f7a4_42 (by decide) ?_
                      refine lv_iload_n hx hb dc_J6_stringSize_0f7a4_44 rfl (lv_at hl 2 rfl) ?_
                      refine lv_iadd hx hb dc_J6_stringSize_0f7a4_45 ?_
                      rw [show ((((10 : Int32)) + ((1 : Int32))) : Int32) = (11 : Int32) from by decide]
                      have z0 := ky_negI c_0
                      have zx : a0.toInt = -(a0.toInt.natAbs : Int) := by omega
                      have hd : (if a0 < 0 then 1 else 0) = 1 := if_pos c_0
                      have e1 : ((-1000000000) : Int32).toInt = -1000000000 := by decide
                      have u1 : a0.toInt ≤ ((-1000000000) : Int32).toInt := Int32.le_iff_toInt_le.mp c_18
                      rw [e1, zx] at u1
                      have u3 := Int32.le_toInt a0
                      have u4 := Int32.toInt_lt a0
                      have hk : ky_d a0.toInt.natAbs = 10 := ky_lo (lo := 1000000000) (hi := 10000000000) (k := 9) (by omega) (by omega) (by decide) (by decide) (by decide)
                      have hP9 := hP.sub (ws' := []) [] rfl
                      have hD9 := hD.sub (ws' := []) [] (by decide) rfl
                      refine W.widen (k := 0) (n := 0) (Nat.le_of_ble_eq_true rfl) (Nat.le_of_ble_eq_true rfl) ?_
                      exact W.iret (v := (11 : Int32)) hx hb hr (fun t ht hW => ⟨⟨_, (), rfl, ky_szI_of rfl hk hd (by decide), by rw [ht]; exact hP9, hD9, trivial⟩, hS.F ht⟩) hS.2.2 dc_J6_stringSize_0f7a4_46
                    · skip
                      refine lv_iload_n hx hb dc_J6_stringSize_0f7a4_27 rfl (lv_at hl 0 rfl) ?_
                      refine lv_iload_n hx hb dc_J6_stringSize_0f7a4_28 rfl (lv_at hl 2 rfl) ?_
                      refine lv_iadd hx hb dc_J6_stringSize_0f7a4_29 ?_
                      rw [show ((((9 : Int32)) + ((1 : Int32))) : Int32) = (10 : Int32) from by decide]
                      have z0 := ky_negI c_0
                      have zx : a0.toInt = -(a0.toInt.natAbs : Int) := by omega
                      have hd : (if a0 < 0 then 1 else 0) = 1 := if_pos c_0
                      have e1 : ((-100000000) : Int32).toInt = -100000000 := by decide
                      have u1 : a0.toInt ≤ ((-100000000) : Int32).toInt := Int32.le_iff_toInt_le.mp c_16
                      rw [e1, zx] at u1
                      have e2 : ((-1000000000) : Int32).toInt = -1000000000 := by decide
                      have u2 : ¬ a0.toInt ≤ ((-1000000000) : Int32).toInt := fun z => c_18 (Int32.le_iff_toInt_le.mpr z)
                      rw [e2, zx] at u2
                      have hk : ky_d a0.toInt.natAbs = 9 := ky_lo (lo := 100000000) (hi := 1000000000) (k := 8) (by omega) (by omega) (by decide) (by decide) (by decide)
                      have hP9 := hP.sub (ws' := []) [] rfl
                      have hD9 := hD.sub (ws' := []) [] (by decide) rfl
                      refine W.widen (k := 0) (n := 0) (Nat.le_of_ble_eq_true rfl) (Nat.le_of_ble_eq_true rfl) ?_
                      exact W.iret (v := (10 : Int32)) hx hb hr (fun t ht hW => ⟨⟨_, (), rfl, ky_szI_of rfl hk hd (by decide), by rw [ht]; exact hP9, hD9, trivial⟩, hS.F ht⟩) hS.2.2 dc_J6_stringSize_0f7a4_30
                  · skip
                    refine lv_iload_n hx hb dc_J6_stringSize_0f7a4_27 rfl (lv_at hl 0 rfl) ?_
                    refine lv_iload_n hx hb dc_J6_stringSize_0f7a4_28 rfl (lv_at hl 2 rfl) ?_
                    refine lv_iadd hx hb dc_J6_stringSize_0f7a4_29 ?_
                    rw [show ((((8 : Int32)) + ((1 : Int32))) : Int32) = (9 : Int32) from by decide]
                    have z0 := ky_negI c_0
                    have zx : a0.toInt = -(a0.toInt.natAbs : Int) := by omega
                    have hd : (if a0 < 0 then 1 else 0) = 1 := if_pos c_0
                    have e1 : ((-10000000) : Int32).toInt = -10000000 := by decide
                    have u1 : a0.toInt ≤ ((-10000000) : Int32).toInt := Int32.le_iff_toInt_le.mp c_14
                    rw [e1, zx] at u1
                    have e2 : ((-100000000) : Int32).toInt = -100000000 := by decide
                    have u2 : ¬ a0.toInt ≤ ((-100000000) : Int32).toInt := fun z => c_16 (Int32.le_iff_toInt_le.mpr z)
                    rw [e2, zx] at u2
                    have hk : ky_d a0.toInt.natAbs = 8 := ky_lo (lo := 10000000) (hi := 100000000) (k := 7) (by omega) (by omega) (by decide) (by decide) (by decide)
                    have hP9 := hP.sub (ws' := []) [] rfl
                    have hD9 := hD.sub (ws' := []) [] (by decide) rfl
                    refine W.widen (k := 0) (n := 0) (Nat.le_of_ble_eq_true rfl) (Nat.le_of_ble_eq_true rfl) ?_
                    exact W.iret (v := (9 : Int32)) hx hb hr (fun t ht hW => ⟨⟨_, (), rfl, ky_szI_of rfl hk hd (by decide), by rw [ht]; exact hP9, hD9, trivial⟩, hS.F ht⟩) hS.2.2 dc_J6_stringSize_0f7a4_30
                · skip
                  refine lv_iload_n hx hb dc_J6_stringSize_0f7a4_27 rfl (lv_at hl 0 rfl) ?_
                  refine lv_iload_n hx hb dc_J6_stringSize_0f7a4_28 rfl (lv_at hl 2 rfl) ?_
                  refine lv_iadd hx hb dc_J6_stringSize_0f7a4_29 ?_
                  rw [show ((((7 : Int32)) + ((1 : Int32))) : Int32) = (8 : Int32) from by decide]
                  have z0 := ky_negI c_0
                  have zx : a0.toInt = -(a0.toInt.natAbs : Int) := by omega
                  have hd : (if a0 < 0 then 1 else 0) = 1 := if_pos c_0
                  have e1 : ((-1000000) : Int32).toInt = -1000000 := by decide
                  have u1 : a0.toInt ≤ ((-1000000) : Int32).toInt := Int32.le_iff_toInt_le.mp c_12
                  rw [e1, zx] at u1
                  have e2 : ((-10000000) : Int32).toInt = -10000000 := by decide
                  have u2 : ¬ a0.toInt ≤ ((-10000000) : Int32).toInt := fun z => c_14 (Int32.le_iff_toInt_le.mpr z)
                  rw [e2, zx] at u2
                  have hk : ky_d a0.toInt.natAbs = 7 := ky_lo (lo := 1000000) (hi := 10000000) (k := 6) (by omega) (by omega) (by decide) (by decide) (by decide)
                  have hP9 := hP.sub (ws' := []) [] rfl
                  have hD9 := hD.sub (ws' := []) [] (by decide) rfl
                  refine W.widen (k := 0) (n := 0) (Nat.le_of_ble_eq_true rfl) (Nat.le_of_ble_eq_true rfl) ?_
                  exact W.iret (v := (8 : Int32)) hx hb hr (fun t ht hW => ⟨⟨_, (), rfl, ky_szI_of rfl hk hd (by decide), by rw [ht]; exact hP9, hD9, trivial⟩, hS.F ht⟩) hS.2.2 dc_J6_stringSize_0f7a4_30
              · skip
                refine lv_iload_n hx hb dc_J6_stringSize_0f7a4_27 rfl (lv_at hl 0 rfl) ?_
                refine lv_iload_n hx hb dc_J6_stringSize_0f7a4_28 rfl (lv_at hl 2 rfl) ?_
                refine lv_iadd hx hb dc_J6_stringSize_0f7a4_29 ?_
                rw [show ((((6 : Int32)) + ((1 : Int32))) : Int32) = (7 : Int32) from by decide]
                have z0 := ky_negI c_0
                have zx : a0.toInt = -(a0.toInt.natAbs : Int) := by omega
                have hd : (if a0 < 0 then 1 else 0) = 1 := if_pos c_0
                have e1 : ((-100000) : Int32).toInt = -100000 := by decide
                have u1 : a0.toInt ≤ ((-100000) : Int32).toInt := Int32.le_iff_toInt_le.mp c_10
                rw [e1, zx] at u1
                have e2 : ((-1000000) : Int32).toInt = -1000000 := by decide
                have u2 : ¬ a0.toInt ≤ ((-1000000) : Int32).toInt := fun z => c_12 (Int32.le_iff_toInt_le.mpr z)
                rw [e2, zx] at u2
                have hk : ky_d a0.toInt.natAbs = 6 := ky_lo (lo := 100000) (hi := 1000000) (k := 5) (by omega) (by omega) (by decide) (by decide) (by decide)
                have hP9 := hP.sub (ws' := []) [] rfl
                have hD9 := hD.sub (ws' := []) [] (by decide) rfl
                refine W.widen (k := 0) (n := 0) (Nat.le_of_ble_eq_true rfl) (Nat.le_of_ble_eq_true rfl) ?_
                exact W.iret (v := (7 : Int32)) hx hb hr (fun t ht hW => ⟨⟨_, (), rfl, ky_szI_of rfl hk hd (by decide), by rw [ht]; exact hP9, hD9, trivial⟩, hS.F ht⟩) hS.2.2 dc_J6_stringSize_0f7a4_30
            · skip
              refine lv_iload_n hx hb dc_J6_stringSize_0f7a4_27 rfl (lv_at hl 0 rfl) ?_
              refine lv_iload_n hx hb dc_J6_stringSize_0f7a4_28 rfl (lv_at hl 2 rfl) ?_
              refine lv_iadd hx hb dc_J6_stringSize_0f7a4_29 ?_
              rw [show ((((5 : Int32)) + ((1 : Int32))) : Int32) = (6 : Int32) from by decide]
              have z0 := ky_negI c_0
              have zx : a0.toInt = -(a0.toInt.natAbs : Int) := by omega
              have hd : (if a0 < 0 then 1 else 0) = 1 := if_pos c_0
              have e1 : ((-10000) : Int32).toInt = -10000 := by decide
              have u1 : a0.toInt ≤ ((-10000) : Int32).toInt := Int32.le_iff_toInt_le.mp c_8
              rw [e1, zx] at u1
              have e2 : ((-100000) : Int32).toInt = -100000 := by decide
              have u2 : ¬ a0.toInt ≤ ((-100000) : Int32).toInt := fun z => c_10 (Int32.le_iff_toInt_le.mpr z)
              rw [e2, zx] at u2
              have hk : ky_d a0.toInt.natAbs = 5 := ky_lo (lo := 10000) (hi := 100000) (k := 4) (by omega) (by omega) (by decide) (by decide) (by decide)
              have hP9 := hP.sub (ws' := []) [] rfl
              have hD9 := hD.sub (ws' := []) [] (by decide) rfl
              refine W.widen (k := 0) (n := 0) (Nat.le_of_ble_eq_true rfl) (Nat.le_of_ble_eq_true rfl) ?_
              exact W.iret (v := (6 : Int32)) hx hb hr (fun t ht hW => ⟨⟨_, (), rfl, ky_szI_of rfl hk hd (by decide), by rw [ht]; exact hP9, hD9, trivial⟩, hS.F ht⟩) hS.2.2 dc_J6_stringSize_0f7a4_30
          · skip
            refine lv_iload_n hx hb dc_J6_stringSize_0f7a4_27 rfl (lv_at hl 0 rfl) ?_
            refine lv_iload_n hx hb dc_J6_stringSize_0f7a4_28 rfl (lv_at hl 2 rfl) ?_
            refine lv_iadd hx hb dc_J6_stringSize_0f7a4_29 ?_
            rw [show ((((4 : Int32)) + ((1 : Int32))) : Int32) = (5 : Int32) from by decide]
            have z0 := ky_negI c_0
            have zx : a0.toInt = -(a0.toInt.natAbs : Int) := by omega
            have hd : (if a0 < 0 then 1 else 0) = 1 := if_pos c_0
            have e1 : ((-1000) : Int32).toInt = -1000 := by decide
            have u1 : a0.toInt ≤ ((-1000) : Int32).toInt := Int32.le_iff_toInt_le.mp c_6
            rw [e1, zx] at u1
            have e2 : ((-10000) : Int32).toInt = -10000 := by decide
            have u2 : ¬ a0.toInt ≤ ((-10000) : Int32).toInt := fun z => c_8 (Int32.le_iff_toInt_le.mpr z)
            rw [e2, zx] at u2
            have hk : ky_d a0.toInt.natAbs = 4 := ky_lo (lo := 1000) (hi := 10000) (k := 3) (by omega) (by omega) (by decide) (by decide) (by decide)
            have hP9 := hP.sub (ws' := []) [] rfl
            have hD9 := hD.sub (ws' := []) [] (by decide) rfl
            refine W.widen (k := 0) (n := 0) (Nat.le_of_ble_eq_true rfl) (Nat.le_of_ble_eq_true rfl) ?_
            exact W.iret (v := (5 : Int32)) hx hb hr (fun t ht hW => ⟨⟨_, (), rfl, ky_szI_of rfl hk hd (by decide), by rw [ht]; exact hP9, hD9, trivial⟩, hS.F ht⟩) hS.2.2 dc_J6_stringSize_0f7a4_30
        · skip
          refine lv_iload_n hx hb dc_J6_stringSize_0f7a4_27 rfl (lv_at hl 0 rfl) ?_
          refine lv_iload_n hx hb dc_J6_stringSize_0f7a4_28 rfl (lv_at hl 2 rfl) ?_
          refine lv_iadd hx hb dc_J6_stringSize_0f7a4_29 ?_
          rw [show ((((3 : Int32)) + ((1 : Int32))) : Int32) = (4 : Int32) from by decide]
          have z0 := ky_negI c_0
          have zx : a0.toInt = -(a0.toInt.natAbs : Int) := by omega
          have hd : (if a0 < 0 then 1 else 0) = 1 := if_pos c_0
          have e1 : ((-100) : Int32).toInt = -100 := by decide
          have u1 : a0.toInt ≤ ((-100) : Int32).toInt := Int32.le_iff_toInt_le.mp c_4
          rw [e1, zx] at u1
          have e2 : ((-1000) : Int32).toInt = -1000 := by decide
          have u2 : ¬ a0.toInt ≤ ((-1000) : Int32).toInt := fun z => c_6 (Int32.le_iff_toInt_le.mpr z)
          rw [e2, zx] at u2
          have hk : ky_d a0.toInt.natAbs = 3 := ky_lo (lo := 100) (hi := 1000) (k := 2) (by omega) (by omega) (by decide) (by decide) (by decide)
          have hP9 := hP.sub (ws' := []) [] rfl
          have hD9 := hD.sub (ws' := []) [] (by decide) rfl
          refine W.widen (k := 0) (n := 0) (Nat.le_of_ble_eq_true rfl) (Nat.le_of_ble_eq_true rfl) ?_
          exact W.iret (v := (4 : Int32)) hx hb hr (fun t ht hW => ⟨⟨_, (), rfl, ky_szI_of rfl hk hd (by decide), by rw [ht]; exact hP9, hD9, trivial⟩, hS.F ht⟩) hS.2.2 dc_J6_stringSize_0f7a4_30
      · skip
        refine lv_iload_n hx hb dc_J6_stringSize_0f7a4_27 rfl (lv_at hl 0 rfl) ?_
        refine lv_iload_n hx hb dc_J6_stringSize_0f7a4_28 rfl (lv_at hl 2 rfl) ?_
        refine lv_iadd hx hb dc_J6_stringSize_0f7a4_29 ?_
        rw [show ((((2 : Int32)) + ((1 : Int32))) : Int32) = (3 : Int32) from by decide]
        have z0 := ky_negI c_0
        have zx : a0.toInt = -(a0.toInt.natAbs : Int) := by omega
        have hd : (if a0 < 0 then 1 else 0) = 1 := if_pos c_0
        have e1 : ((-10) : Int32).toInt = -10 := by decide
        have u1 : a0.toInt ≤ ((-10) : Int32).toInt := Int32.le_iff_toInt_le.mp c_2
        rw [e1, zx] at u1
        have e2 : ((-100) : Int32).toInt = -100 := by decide
        have u2 : ¬ a0.toInt ≤ ((-100) : Int32).toInt := fun z => c_4 (Int32.le_iff_toInt_le.mpr z)
        rw [e2, zx] at u2
        have hk : ky_d a0.toInt.natAbs = 2 := ky_lo (lo := 10) (hi := 100) (k := 1) (by omega) (by omega) (by decide) (by decide) (by decide)
        have hP9 := hP.sub (ws' := []) [] rfl
        have hD9 := hD.sub (ws' := []) [] (by decide) rfl
        refine W.widen (k := 0) (n := 0) (Nat.le_of_ble_eq_true rfl) (Nat.le_of_ble_eq_true rfl) ?_
        exact W.iret (v := (3 : Int32)) hx hb hr (fun t ht hW => ⟨⟨_, (), rfl, ky_szI_of rfl hk hd (by decide), by rw [ht]; exact hP9, hD9, trivial⟩, hS.F ht⟩) hS.2.2 dc_J6_stringSize_0f7a4_30
    · skip
      refine lv_iload_n hx hb dc_J6_stringSize_0f7a4_27 rfl (lv_at hl 0 rfl) ?_
      refine lv_iload_n hx hb dc_J6_stringSize_0f7a4_28 rfl (lv_at hl 2 rfl) ?_
      refine lv_iadd hx hb dc_J6_stringSize_0f7a4_29 ?_
      rw [show ((((1 : Int32)) + ((1 : Int32))) : Int32) = (2 : Int32) from by decide]
      have z0 := ky_negI c_0
      have zx : a0.toInt = -(a0.toInt.natAbs : Int) := by omega
      have hd : (if a0 < 0 then 1 else 0) = 1 := if_pos c_0
      have e2 : ((-10) : Int32).toInt = -10 := by decide
      have u2 : ¬ a0.toInt ≤ ((-10) : Int32).toInt := fun z => c_2 (Int32.le_iff_toInt_le.mpr z)
      rw [e2, zx] at u2
      have hk : ky_d a0.toInt.natAbs = 1 := ky_d10 (by omega)
      have hP9 := hP.sub (ws' := []) [] rfl
      have hD9 := hD.sub (ws' := []) [] (by decide) rfl
      refine W.widen (k := 0) (n := 0) (Nat.le_of_ble_eq_true rfl) (Nat.le_of_ble_eq_true rfl) ?_
      exact W.iret (v := (2 : Int32)) hx hb hr (fun t ht hW => ⟨⟨_, (), rfl, ky_szI_of rfl hk hd (by decide), by rw [ht]; exact hP9, hD9, trivial⟩, hS.F ht⟩) hS.2.2 dc_J6_stringSize_0f7a4_30
  · skip
    refine lv_iconst (v := 0) hx hb dc_J6_stringSize_0f7a4_6 (by decide) ?_
    refine lv_istore_n (lv' := [(1, .int ((0 : Int32))), (0, .int (a0))]) hx hb dc_J6_stringSize_0f7a4_7 rfl hl (by decide) rfl (fun ls hl => ?_)
    refine lv_iload_n hx hb dc_J6_stringSize_0f7a4_8 rfl (lv_at hl 1 rfl) ?_
    refine lv_ineg hx hb dc_J6_stringSize_0f7a4_9 ?_
    refine lv_istore_n (lv' := [(0, .int (-(a0))), (1, .int ((0 : Int32)))]) hx hb dc_J6_stringSize_0f7a4_10 rfl hl (by decide) rfl (fun ls hl => ?_)
    refine lv_bipush (v := (-10)) hx hb dc_J6_stringSize_0f7a4_11 (by decide) ?_
    refine lv_istore_n (lv' := [(2, .int ((-10 : Int32))), (0, .int (-(a0))), (1, .int ((0 : Int32)))]) hx hb dc_J6_stringSize_0f7a4_13 rfl hl (by decide) rfl (fun ls hl => ?_)
    refine lv_iconst (v := 1) hx hb dc_J6_stringSize_0f7a4_14 (by decide) ?_
    refine lv_istore_n (lv' := [(3, .int ((1 : Int32))), (2, .int ((-10 : Int32))), (0, .int (-(a0))), (1, .int ((0 : Int32)))]) hx hb dc_J6_stringSize_0f7a4_15 rfl hl (by decide) rfl (fun ls hl => ?_)
    refine lv_iload_n hx hb dc_J6_stringSize_0f7a4_16 rfl (lv_at hl 0 rfl) ?_
    refine lv_bipush (v := 10) hx hb dc_J6_stringSize_0f7a4_17 (by decide) ?_
    refine lv_icmp_ge (tgt := 42) hx hb dc_J6_stringSize_0f7a4_19 (by decide) (fun c_1 => absurd c_1 (by decide)) (fun _ => ?_)
    refine lv_iload_n hx hb dc_J6_stringSize_0f7a4_22 rfl (lv_at hl 2 rfl) ?_
    refine lv_iload_n hx hb dc_J6_stringSize_0f7a4_23 rfl (lv_at hl 1 rfl) ?_
    refine lv_icmp_le (tgt := 31) hx hb dc_J6_stringSize_0f7a4_24 (by decide) (fun c_2 => ?_) (fun c_2 => ?_)
    · skip
      refine lv_bipush (v := 10) hx hb dc_J6_stringSize_0f7a4_31 (by decide) ?_
      refine lv_iload_n hx hb dc_J6_stringSize_0f7a4_33 rfl (lv_at hl 1 rfl) ?_
      refine lv_imul hx hb dc_J6_stringSize_0f7a4_34 ?_
      rw [show ((((10 : Int32)) * ((-10 : Int32))) : Int32) = (-100 : Int32) from by decide]
      refine lv_istore_n (lv' := [(2, .int ((-100 : Int32))), (3, .int ((1 : Int32))), (0, .int (-(a0))), (1, .int ((0 : Int32)))]) hx hb dc_J6_stringSize_0f7a4_35 rfl hl (by decide) rfl (fun ls hl => ?_)
      refine lv_iinc (v := (2 : Int32)) (lv' := [(3, .int ((2 : Int32))), (2, .int ((-100 : Int32))), (0, .int (-(a0))), (1, .int ((0 : Int32)))]) hx hb dc_J6_stringSize_0f7a4_36 hl (k := 1) rfl (by decide) (by decide) rfl (fun ls hl => ?_)
      refine lv_goto (tgt := 16) hx hb dc_J6_stringSize_0f7a4_39 (by decide) ?_
      refine lv_iload_n hx hb dc_J6_stringSize_0f7a4_16 rfl (lv_at hl 0 rfl) ?_
      refine lv_bipush (v := 10) hx hb dc_J6_stringSize_0f7a4_17 (by decide) ?_
      refine lv_icmp_ge (tgt := 42) hx hb dc_J6_stringSize_0f7a4_19 (by decide) (fun c_3 => absurd c_3 (by decide)) (fun _ => ?_)
      refine lv_iload_n hx hb dc_J6_stringSize_0f7a4_22 rfl (lv_at hl 2 rfl) ?_
      refine lv_iload_n hx hb dc_J6_stringSize_0f7a4_23 rfl (lv_at hl 1 rfl) ?_
      refine lv_icmp_le (tgt := 31) hx hb dc_J6_stringSize_0f7a4_24 (by decide) (fun c_4 => ?_) (fun c_4 => ?_)
      · skip
        refine lv_bipush (v := 10) hx hb dc_J6_stringSize_0f7a4_31 (by decide) ?_
        refine lv_iload_n hx hb dc_J6_stringSize_0f7a4_33 rfl (lv_at hl 1 rfl) ?_
        refine lv_imul hx hb dc_J6_stringSize_0f7a4_34 ?_
        rw [show ((((10 : Int32)) * ((-100 : Int32))) : Int32) = (-1000 : Int32) from by decide]
        refine lv_istore_n (lv' := [(2, .int ((-1000 : Int32))), (3, .int ((2 : Int32))), (0, .int (-(a0))), (1, .int ((0 : Int32)))]) hx hb dc_J6_stringSize_0f7a4_35 rfl hl (by decide) rfl (fun ls hl => ?_)
        refine lv_iinc (v := (3 : Int32)) (lv' := [(3, .int ((3 : Int32))), (2, .int ((-1000 : Int32))), (0, .int (-(a0))), (1, .int ((0 : Int32)))]) hx hb dc_J6_stringSize_0f7a4_36 hl (k := 1) rfl (by decide) (by decide) rfl (fun ls hl => ?_)
        refine lv_goto (tgt := 16) hx hb dc_J6_stringSize_0f7a4_39 (by decide) ?_
        refine lv_iload_n hx hb dc_J6_stringSize_0f7a4_16 rfl (lv_at hl 0 rfl) ?_
        refine lv_bipush (v := 10) hx hb dc_J6_stringSize_0f7a4_17 (by decide) ?_
        refine lv_icmp_ge (tgt := 42) hx hb dc_J6_stringSize_0f7a4_19 (by decide) (fun c_5 => absurd c_5 (by decide)) (fun _ => ?_)
        refine lv_iload_n hx hb dc_J6_stringSize_0f7a4_22 rfl (lv_at hl 2 rfl) ?_
        refine lv_iload_n hx hb dc_J6_stringSize_0f7a4_23 rfl (lv_at hl 1 rfl) ?_
        refine lv_icmp_le (tgt := 31) hx hb dc_J6_stringSize_0f7a4_24 (by decide) (fun c_6 => ?_) (fun c_6 => ?_)
        · skip
          refine lv_bipush (v := 10) hx hb dc_J6_stringSize_0f7a4_31 (by decide) ?_
          refine lv_iload_n hx hb dc_J6_stringSize_0f7a4_33 rfl (lv_at hl 1 rfl) ?_
          refine lv_imul hx hb dc_J6_stringSize_0f7a4_34 ?_
          rw [show ((((10 : Int32)) * ((-1000 : Int32))) : Int32) = (-10000 : Int32) from by decide]
          refine lv_istore_n (lv' := [(2, .int ((-10000 : Int32))), (3, .int ((3 : Int32))), (0, .int (-(a0))), (1, .int ((0 : Int32)))]) hx hb dc_J6_stringSize_0f7a4_35 rfl hl (by decide) rfl (fun ls hl => ?_)
          refine lv_iinc (v := (4 : Int32)) (lv' := [(3, .int ((4 : Int32))), (2, .int ((-10000 : Int32))), (0, .int (-(a0))), (1, .int ((0 : Int32)))]) hx hb dc_J6_stringSize_0f7a4_36 hl (k := 1) rfl (by decide) (by decide) rfl (fun ls hl => ?_)
          refine lv_goto (tgt := 16) hx hb dc_J6_stringSize_0f7a4_39 (by decide) ?_
          refine lv_iload_n hx hb dc_J6_stringSize_0f7a4_16 rfl (lv_at hl 0 rfl) ?_
          refine lv_bipush (v := 10) hx hb dc_J6_stringSize_0f7a4_17 (by decide) ?_
          refine lv_icmp_ge (tgt := 42) hx hb dc_J6_stringSize_0f7a4_19 (by decide) (fun c_7 => absurd c_7 (by decide)) (fun _ => ?_)
          refine lv_iload_n hx hb dc_J6_stringSize_0f7a4_22 rfl (lv_at hl 2 rfl) ?_
          refine lv_iload_n hx hb dc_J6_stringSize_0f7a4_23 rfl (lv_at hl 1 rfl) ?_
          refine lv_icmp_le (tgt := 31) hx hb dc_J6_stringSize_0f7a4_24 (by decide) (fun c_8 => ?_) (fun c_8 => ?_)
          · skip
            refine lv_bipush (v := 10) hx hb dc_J6_stringSize_0f7a4_31 (by decide) ?_
            refine lv_iload_n hx hb dc_J6_stringSize_0f7a4_33 rfl (lv_at hl 1 rfl) ?_
            refine lv_imul hx hb dc_J6_stringSize_0f7a4_34 ?_
            rw [show ((((10 : Int32)) * ((-10000 : Int32))) : Int32) = (-100000 : Int32) from by decide]
            refine lv_istore_n (lv' := [(2, .int ((-100000 : Int32))), (3, .int ((4 : Int32))), (0, .int (-(a0))), (1, .int ((0 : Int32)))]) hx hb dc_J6_stringSize_0f7a4_35 rfl hl (by decide) rfl (fun ls hl => ?_)
            refine lv_iinc (v := (5 : Int32)) (lv' := [(3, .int ((5 : Int32))), (2, .int ((-100000 : Int32))), (0, .int (-(a0))), (1, .int ((0 : Int32)))]) hx hb dc_J6_stringSize_0f7a4_36 hl (k := 1) rfl (by decide) (by decide) rfl (fun ls hl => ?_)
            refine lv_goto (tgt := 16) hx hb dc_J6_stringSize_0f7a4_39 (by decide) ?_
            refine lv_iload_n hx hb dc_J6_stringSize_0f7a4_16 rfl (lv_at hl 0 rfl) ?_
            refine lv_bipush (v := 10) hx hb dc_J6_stringSize_0f7a4_17 (by decide) ?_
            refine lv_icmp_ge (tgt := 42) hx hb dc_J6_stringSize_0f7a4_19 (by decide) (fun c_9 => absurd c_9 (by decide)) (fun _ => ?_)
            refine lv_iload_n hx hb dc_J6_stringSize_0f7a4_22 rfl (lv_at hl 2 rfl) ?_
            refine lv_iload_n hx hb dc_J6_stringSize_0f7a4_23 rfl (lv_at hl 1 rfl) ?_
            refine lv_icmp_le (tgt := 31) hx hb dc_J6_stringSize_0f7a4_24 (by decide) (fun c_10 => ?_) (fun c_10 => ?_)
            · skip
              refine lv_bipush (v := 10) hx hb dc_J6_stringSize_0f7a4_31 (by decide) ?_
              refine lv_iload_n hx hb dc_J6_stringSize_0f7a4_33 rfl (lv_at hl 1 rfl) ?_
              refine lv_imul hx hb dc_J6_stringSize_0f7a4_34 ?_
              rw [show ((((10 : Int32)) * ((-100000 : Int32))) : Int32) = (-1000000 : Int32) from by decide]
              refine lv_istore_n (lv' := [(2, .int ((-1000000 : Int32))), (3, .int ((5 : Int32))), (0, .int (-(a0))), (1, .int ((0 : Int32)))]) hx hb dc_J6_stringSize_0f7a4_35 rfl hl (by decide) rfl (fun ls hl => ?_)
              refine lv_iinc (v := (6 : Int32)) (lv' := [(3, .int ((6 : Int32))), (2, .int ((-1000000 : Int32))), (0, .int (-(a0))), (1, .int ((0 : Int32)))]) hx hb dc_J6_stringSize_0f7a4_36 hl (k := 1) rfl (by decide) (by decide) rfl (fun ls hl => ?_)
              refine lv_goto (tgt := 16) hx hb dc_J6_stringSize_0f7a4_39 (by decide) ?_
              refine lv_iload_n hx hb dc_J6_stringSize_0f7a4_16 rfl (lv_at hl 0 rfl) ?_
              refine lv_bipush (v := 10) hx hb dc_J6_stringSize_0f7a4_17 (by decide) ?_
              refine lv_icmp_ge (tgt := 42) hx hb dc_J6_stringSize_0f7a4_19 (by decide) (fun c_11 => absurd c_11 (by decide)) (fun _ => ?_)
              refine lv_iload_n hx hb dc_J6_stringSize_0f7a4_22 rfl (lv_at hl 2 rfl) ?_
              refine lv_iload_n hx hb dc_J6_stringSize_0f7a4_23 rfl (lv_at hl 1 rfl) ?_
              refine lv_icmp_le (tgt := 31) hx hb dc_J6_stringSize_0f7a4_24 (by decide) (fun c_12 => ?_) (fun c_12 => ?_)
              · skip
                refine lv_bipush (v := 10) hx hb dc_J6_stringSize_0f7a4_31 (by decide) ?_
                refine lv_iload_n hx hb dc_J6_stringSize_0f7a4_33 rfl (lv_at hl 1 rfl) ?_
                refine lv_imul hx hb dc_J6_stringSize_0f7a4_34 ?_
                rw [show ((((10 : Int32)) * ((-1000000 : Int32))) : Int32) = (-10000000 : Int32) from by decide]
                refine lv_istore_n (lv' := [(2, .int ((-10000000 : Int32))), (3, .int ((6 : Int32))), (0, .int (-(a0))), (1, .int ((0 : Int32)))]) hx hb dc_J6_stringSize_0f7a4_35 rfl hl (by decide) rfl (fun ls hl => ?_)
                refine lv_iinc (v := (7 : Int32)) (lv' := [(3, .int ((7 : Int32))), (2, .int ((-10000000 : Int32))), (0, .int (-(a0))), (1, .int ((0 : Int32)))]) hx hb dc_J6_stringSize_0f7a4_36 hl (k := 1) rfl (by decide) (by decide) rfl (fun ls hl => ?_)
                refine lv_goto (tgt := 16) hx hb dc_J6_stringSize_0f7a4_39 (by decide) ?_
                refine lv_iload_n hx hb dc_J6_stringSize_0f7a4_16 rfl (lv_at hl 0 rfl) ?_
                refine lv_bipush (v := 10) hx hb dc_J6_stringSize_0f7a4_17 (by decide) ?_
                refine lv_icmp_ge (tgt := 42) hx hb dc_J6_stringSize_0f7a4_19 (by decide) (fun c_13 => absurd c_13 (by decide)) (fun _ => ?_)
                refine lv_iload_n hx hb dc_J6_stringSize_0f7a4_22 rfl (lv_at hl 2 rfl) ?_
                refine lv_iload_n hx hb dc_J6_stringSize_0f7a4_23 rfl (lv_at hl 1 rfl) ?_
                refine lv_icmp_le (tgt := 31) hx hb dc_J6_stringSize_0f7a4_24 (by decide) (fun c_14 => ?_) (fun c_14 => ?_)
                · skip
                  refine lv_bipush (v := 10) hx hb dc_J6_stringSize_0f7a4_31 (by decide) ?_
                  refine lv_iload_n hx hb dc_J6_stringSize_0f7a4_33 rfl (lv_at hl 1 rfl) ?_
                  refine lv_imul hx hb dc_J6_stringSize_0f7a4_34 ?_
                  rw [show ((((10 : Int32)) * ((-10000000 : Int32))) : Int32) = (-100000000 : Int32) from by decide]
                  refine lv_istore_n (lv' := [(2, .int ((-100000000 : Int32))), (3, .int ((7 : Int32))), (0, .int (-(a0))), (1, .int ((0 : Int32)))]) hx hb dc_J6_stringSize_0f7a4_35 rfl hl (by decide) rfl (fun ls hl => ?_)
                  refine lv_iinc (v := (8 : Int32)) (lv' := [(3, .int ((8 : Int32))), (2, .int ((-100000000 : Int32))), (0, .int (-(a0))), (1, .int ((0 : Int32)))]) hx hb dc_J6_stringSize_0f7a4_36 hl (k := 1) rfl (by decide) (by decide) rfl (fun ls hl => ?_)
                  refine lv_goto (tgt := 16) hx hb dc_J6_stringSize_0f7a4_39 (by decide) ?_
                  refine lv_iload_n hx hb dc_J6_stringSize_0f7a4_16 rfl (lv_at hl 0 rfl) ?_
                  refine lv_bipush (v := 10) hx hb dc_J6_stringSize_0f7a4_17 (by decide) ?_
                  refine lv_icmp_ge (tgt := 42) hx hb dc_J6_stringSize_0f7a4_19 (by decide) (fun c_15 => absurd c_15 (by decide)) (fun _ => ?_)
                  refine lv_iload_n hx hb dc_J6_stringSize_0f7a4_22 rfl (lv_at hl 2 rfl) ?_
                  refine lv_iload_n hx hb dc_J6_stringSize_0f7a4_23 rfl (lv_at hl 1 rfl) ?_
                  refine lv_icmp_le (tgt := 31) hx hb dc_J6_stringSize_0f7a4_24 (by decide) (fun c_16 => ?_) (fun c_16 => ?_)
                  · skip
                    refine lv_bipush (v := 10) hx hb dc_J6_stringSize_0f7a4_31 (by decide) ?_
                    refine lv_iload_n hx hb dc_J6_stringSize_0f7a4_33 rfl (lv_at hl 1 rfl) ?_
                    refine lv_imul hx hb dc_J6_stringSize_0f7a4_34 ?_
                    rw [show ((((10 : Int32)) * ((-100000000 : Int32))) : Int32) = (-1000000000 : Int32) from by decide]
                    refine lv_istore_n (lv' := [(2, .int ((-1000000000 : Int32))), (3, .int ((8 : Int32))), (0, .int (-(a0))), (1, .int ((0 : Int32)))]) hx hb dc_J6_stringSize_0f7a4_35 rfl hl (by decide) rfl (fun ls hl => ?_)
                    refine lv_iinc (v := (9 : Int32)) (lv' := [(3, .int ((9 : Int32))), (2, .int ((-1000000000 : Int32))), (0, .int (-(a0))), (1, .int ((0 : Int32)))]) hx hb dc_J6_stringSize_0f7a4_36 hl (k := 1) rfl (by decide) (by decide) rfl (fun ls hl => ?_)
                    refine lv_goto (tgt := 16) hx hb dc_J6_stringSize_0f7a4_39 (by decide) ?_
                    refine lv_iload_n hx hb dc_J6_stringSize_0f7a4_16 rfl (lv_at hl 0 rfl) ?_
                    refine lv_bipush (v := 10) hx hb dc_J6_stringSize_0f7a4_17 (by decide) ?_
                    refine lv_icmp_ge (tgt := 42) hx hb dc_J6_stringSize_0f7a4_19 (by decide) (fun c_17 => absurd c_17 (by decide)) (fun _ => ?_)
                    refine lv_iload_n hx hb dc_J6_stringSize_0f7a4_22 rfl (lv_at hl 2 rfl) ?_
                    refine lv_iload_n hx hb dc_J6_stringSize_0f7a4_23 rfl (lv_at hl 1 rfl) ?_
                    refine lv_icmp_le (tgt := 31) hx hb dc_J6_stringSize_0f7a4_24 (by decide) (fun c_18 => ?_) (fun c_18 => ?_)
                    · skip
                      refine lv_bipush (v := 10) hx hb dc_J6_stringSize_0f7a4_31 (by decide) ?_
                      refine lv_iload_n hx hb dc_J6_stringSize_0f7a4_33 rfl (lv_at hl 1 rfl) ?_
                      refine lv_imul hx hb dc_J6_stringSize_0f7a4_34 ?_
                      rw [show ((((10 : Int32)) * ((-1000000000 : Int32))) : Int32) = (-1410065408 : Int32) from by decide]
                      refine lv_istore_n (lv' := [(2, .int ((-1410065408 : Int32))), (3, .int ((9 : Int32))), (0, .int (-(a0))), (1, .int ((0 : Int32)))]) hx hb dc_J6_stringSize_0f7a4_35 rfl hl (by decide) rfl (fun ls hl => ?_)
                      refine lv_iinc (v := (10 : Int32)) (lv' := [(3, .int ((10 : Int32))), (2, .int ((-1410065408 : Int32))), (0, .int (-(a0))), (1, .int ((0 : Int32)))]) hx hb dc_J6_stringSize_0f7a4_36 hl (k := 1) rfl (by decide) (by decide) rfl (fun ls hl => ?_)
                      refine lv_goto (tgt := 16) hx hb dc_J6_stringSize_0f7a4_39 (by decide) ?_
                      refine lv_iload_n hx hb dc_J6_stringSize_0f7a4_16 rfl (lv_at hl 0 rfl) ?_
                      refine lv_bipush (v := 10) hx hb dc_J6_stringSize_0f7a4_17 (by decide) ?_
                      refine lv_icmp_ge (tgt := 42) hx hb dc_J6_stringSize_0f7a4_19 (by decide) (fun _ => ?_) (fun c_19 => absurd c_19 (by decide))
                      refine lv_bipush (v := 10) hx hb dc_J6_stringSize_0f7a4_42 (by decide) ?_
                      refine lv_iload_n hx hb dc_J6_stringSize_0f7a4_44 rfl (lv_at hl 3 rfl) ?_
                      refine lv_iadd hx hb dc_J6_stringSize_0f7a4_45 ?_
                      rw [show ((((10 : Int32)) + ((0 : Int32))) : Int32) = (10 : Int32) from by decide]
                      have z0 := ky_posI c_0
                      have zx : (-(a0)).toInt = -(a0.toInt.natAbs : Int) := by omega
                      have hd : (if a0 < 0 then 1 else 0) = 0 := if_neg c_0
                      have e1 : ((-1000000000) : Int32).toInt = -1000000000 := by decide
                      have u1 : (-(a0)).toInt ≤ ((-1000000000) : Int32).toInt := Int32.le_iff_toInt_le.mp c_18
                      rw [e1, zx] at u1
                      have u3 := Int32.le_toInt a0
                      have u4 := Int32.toInt_lt a0
                      have hk : ky_d a0.toInt.natAbs = 10 := ky_lo (lo := 1000000000) (hi := 10000000000) (k := 9) (by omega) (by omega) (by decide) (by decide) (by decide)
                      have hP9 := hP.sub (ws' := []) [] rfl
                      have hD9 := hD.sub (ws' := []) [] (by decide) rfl
                      refine W.widen (k := 0) (n := 0) (Nat.le_of_ble_eq_true rfl) (Nat.le_of_ble_eq_true rfl) ?_
                      exact W.iret (v := (10 : Int32)) hx hb hr (fun t ht hW => ⟨⟨_, (), rfl, ky_szI_of rfl hk hd (by decide), by rw [ht]; exact hP9, hD9, trivial⟩, hS.F ht⟩) hS.2.2 dc_J6_stringSize_0f7a4_46
                    · skip
                      refine lv_iload_n hx hb dc_J6_stringSize_0f7a4_27 rfl (lv_at hl 0 rfl) ?_
                      refine lv_iload_n hx hb dc_J6_stringSize_0f7a4_28 rfl (lv_at hl 3 rfl) ?_
                      refine lv_iadd hx hb dc_J6_stringSize_0f7a4_29 ?_
                      rw [show ((((9 : Int32)) + ((0 : Int32))) : Int32) = (9 : Int32) from by decide]
                      have z0 := ky_posI c_0
                      have zx : (-(a0)).toInt = -(a0.toInt.natAbs : Int) := by omega
                      have hd : (if a0 < 0 then 1 else 0) = 0 := if_neg c_0
                      have e1 : ((-100000000) : Int32).toInt = -100000000 := by decide
                      have u1 : (-(a0)).toInt ≤ ((-100000000) : Int32).toInt := Int32.le_iff_toInt_le.mp c_16
                      rw [e1, zx] at u1
                      have e2 : ((-1000000000) : Int32).toInt = -1000000000 := by decide
                      have u2 : ¬ (-(a0)).toInt ≤ ((-1000000000) : Int32).toInt := fun z => c_18 (Int32.le_iff_toInt_le.mpr z)
                      rw [e2, zx] at u2
                      have hk : ky_d a0.toInt.natAbs = 9 := ky_lo (lo := 100000000) (hi := 1000000000) (k := 8) (by omega) (by omega) (by decide) (by decide) (by decide)
                      have hP9 := hP.sub (ws' := []) [] rfl
                      have hD9 := hD.sub (ws' := []) [] (by decide) rfl
                      refine W.widen (k := 0) (n := 0) (Nat.le_of_ble_eq_true rfl) (Nat.le_of_ble_eq_true rfl) ?_
                      exact W.iret (v := (9 : Int32)) hx hb hr (fun t ht hW => ⟨⟨_, (), rfl, ky_szI_of rfl hk hd (by decide), by rw [ht]; exact hP9, hD9, trivial⟩, hS.F ht⟩) hS.2.2 dc_J6_stringSize_0f7a4_30
                  · skip
                    refine lv_iload_n hx hb dc_J6_stringSize_0f7a4_27 rfl (lv_at hl 0 rfl) ?_
                    refine lv_iload_n hx hb dc_J6_stringSize_0f7a4_28 rfl (lv_at hl 3 rfl) ?_
                    refine lv_iadd hx hb dc_J6_stringSize_0f7a4_29 ?_
                    rw [show ((((8 : Int32)) + ((0 : Int32))) : Int32) = (8 : Int32) from by decide]
                    have z0 := ky_posI c_0
                    have zx : (-(a0)).toInt = -(a0.toInt.natAbs : Int) := by omega
                    have hd : (if a0 < 0 then 1 else 0) = 0 := if_neg c_0
                    have e1 : ((-10000000) : Int32).toInt = -10000000 := by decide
                    have u1 : (-(a0)).toInt ≤ ((-10000000) : Int32).toInt := Int32.le_iff_toInt_le.mp c_14
                    rw [e1, zx] at u1
                    have e2 : ((-100000000) : Int32).toInt = -100000000 := by decide
                    have u2 : ¬ (-(a0)).toInt ≤ ((-100000000) : Int32).toInt := fun z => c_16 (Int32.le_iff_toInt_le.mpr z)
                    rw [e2, zx] at u2
                    have hk : ky_d a0.toInt.natAbs = 8 := ky_lo (lo := 10000000) (hi := 100000000) (k := 7) (by omega) (by omega) (by decide) (by decide) (by decide)
                    have hP9 := hP.sub (ws' := []) [] rfl
                    have hD9 := hD.sub (ws' := []) [] (by decide) rfl
                    refine W.widen (k := 0) (n := 0) (Nat.le_of_ble_eq_true rfl) (Nat.le_of_ble_eq_true rfl) ?_
                    exact W.iret (v := (8 : Int32)) hx hb hr (fun t ht hW => ⟨⟨_, (), rfl, ky_szI_of rfl hk hd (by decide), by rw [ht]; exact hP9, hD9, trivial⟩, hS.F ht⟩) hS.2.2 dc_J6_stringSize_0f7a4_30
                · skip
                  refine lv_iload_n hx hb dc_J6_stringSize_0f7a4_27 rfl (lv_at hl 0 rfl) ?_
                  refine lv_iload_n hx hb dc_J6_stringSize_0f7a4_28 rfl (lv_at hl 3 rfl) ?_
                  refine lv_iadd hx hb dc_J6_stringSize_0f7a4_29 ?_
                  rw [show ((((7 : Int32)) + ((0 : Int32))) : Int32) = (7 : Int32) from by decide]
                  have z0 := ky_posI c_0
                  have zx : (-(a0)).toInt = -(a0.toInt.natAbs : Int) := by omega
                  have hd : (if a0 < 0 then 1 else 0) = 0 := if_neg c_0
                  have e1 : ((-1000000) : Int32).toInt = -1000000 := by decide
                  have u1 : (-(a0)).toInt ≤ ((-1000000) : Int32).toInt := Int32.le_iff_toInt_le.mp c_12
                  rw [e1, zx] at u1
                  have e2 : ((-10000000) : Int32).toInt = -10000000 := by decide
                  have u2 : ¬ (-(a0)).toInt ≤ ((-10000000) : Int32).toInt := fun z => c_14 (Int32.le_iff_toInt_le.mpr z)
                  rw [e2, zx] at u2
                  have hk : ky_d a0.toInt.natAbs = 7 := ky_lo (lo := 1000000) (hi := 10000000) (k := 6) (by omega) (by omega) (by decide) (by decide) (by decide)
                  have hP9 := hP.sub (ws' := []) [] rfl
                  have hD9 := hD.sub (ws' := []) [] (by decide) rfl
                  refine W.widen (k := 0) (n := 0) (Nat.le_of_ble_eq_true rfl) (Nat.le_of_ble_eq_true rfl) ?_
                  exact W.iret (v := (7 : Int32)) hx hb hr (fun t ht hW => ⟨⟨_, (), rfl, ky_szI_of rfl hk hd (by decide), by rw [ht]; exact hP9, hD9, trivial⟩, hS.F ht⟩) hS.2.2 dc_J6_stringSize_0f7a4_30
              · skip
                refine lv_iload_n hx hb dc_J6_stringSize_0f7a4_27 rfl (lv_at hl 0 rfl) ?_
                refine lv_iload_n hx hb dc_J6_stringSize_0f7a4_28 rfl (lv_at hl 3 rfl) ?_
                refine lv_iadd hx hb dc_J6_stringSize_0f7a4_29 ?_
                rw [show ((((6 : Int32)) + ((0 : Int32))) : Int32) = (6 : Int32) from by decide]
                have z0 := ky_posI c_0
                have zx : (-(a0)).toInt = -(a0.toInt.natAbs : Int) := by omega
                have hd : (if a0 < 0 then 1 else 0) = 0 := if_neg c_0
                have e1 : ((-100000) : Int32).toInt = -100000 := by decide
                have u1 : (-(a0)).toInt ≤ ((-100000) : Int32).toInt := Int32.le_iff_toInt_le.mp c_10
                rw [e1, zx] at u1
                have e2 : ((-1000000) : Int32).toInt = -1000000 := by decide
                have u2 : ¬ (-(a0)).toInt ≤ ((-1000000) : Int32).toInt := fun z => c_12 (Int32.le_iff_toInt_le.mpr z)
                rw [e2, zx] at u2
                have hk : ky_d a0.toInt.natAbs = 6 := ky_lo (lo := 100000) (hi := 1000000) (k := 5) (by omega) (by omega) (by decide) (by decide) (by decide)
                have hP9 := hP.sub (ws' := []) [] rfl
                have hD9 := hD.sub (ws' := []) [] (by decide) rfl
                refine W.widen (k := 0) (n := 0) (Nat.le_of_ble_eq_true rfl) (Nat.le_of_ble_eq_true rfl) ?_
                exact W.iret (v := (6 : Int32)) hx hb hr (fun t ht hW => ⟨⟨_, (), rfl, ky_szI_of rfl hk hd (by decide), by rw [ht]; exact hP9, hD9, trivial⟩, hS.F ht⟩) hS.2.2 dc_J6_stringSize_0f7a4_30
            · skip
              refine lv_iload_n hx hb dc_J6_stringSize_0f7a4_27 rfl (lv_at hl 0 rfl) ?_
              refine lv_iload_n hx hb dc_J6_stringSize_0f7a4_28 rfl (lv_at hl 3 rfl) ?_
              refine lv_iadd hx hb dc_J6_stringSize_0f7a4_29 ?_
              rw [show ((((5 : Int32)) + ((0 : Int32))) : Int32) = (5 : Int32) from by decide]
              have z0 := ky_posI c_0
              have zx : (-(a0)).toInt = -(a0.toInt.natAbs : Int) := by omega
              have hd : (if a0 < 0 then 1 else 0) = 0 := if_neg c_0
              have e1 : ((-10000) : Int32).toInt = -10000 := by decide
              have u1 : (-(a0)).toInt ≤ ((-10000) : Int32).toInt := Int32.le_iff_toInt_le.mp c_8
              rw [e1, zx] at u1
              have e2 : ((-100000) : Int32).toInt = -100000 := by decide
              have u2 : ¬ (-(a0)).toInt ≤ ((-100000) : Int32).toInt := fun z => c_10 (Int32.le_iff_toInt_le.mpr z)
              rw [e2, zx] at u2
              have hk : ky_d a0.toInt.natAbs = 5 := ky_lo (lo := 10000) (hi := 100000) (k := 4) (by omega) (by omega) (by decide) (by decide) (by decide)
              have hP9 := hP.sub (ws' := []) [] rfl
              have hD9 := hD.sub (ws' := []) [] (by decide) rfl
              refine W.widen (k := 0) (n := 0) (Nat.le_of_ble_eq_true rfl) (Nat.le_of_ble_eq_true rfl) ?_
              exact W.iret (v := (5 : Int32)) hx hb hr (fun t ht hW => ⟨⟨_, (), rfl, ky_szI_of rfl hk hd (by decide), by rw [ht]; exact hP9, hD9, trivial⟩, hS.F ht⟩) hS.2.2 dc_J6_stringSize_0f7a4_30
          · skip
            refine lv_iload_n hx hb dc_J6_stringSize_0f7a4_27 rfl (lv_at hl 0 rfl) ?_
            refine lv_iload_n hx hb dc_J6_stringSize_0f7a4_28 rfl (lv_at hl 3 rfl) ?_
            refine lv_iadd hx hb dc_J6_stringSize_0f7a4_29 ?_
            rw [show ((((4 : Int32)) + ((0 : Int32))) : Int32) = (4 : Int32) from by decide]
            have z0 := ky_posI c_0
            have zx : (-(a0)).toInt = -(a0.toInt.natAbs : Int) := by omega
            have hd : (if a0 < 0 then 1 else 0) = 0 := if_neg c_0
            have e1 : ((-1000) : Int32).toInt = -1000 := by decide
            have u1 : (-(a0)).toInt ≤ ((-1000) : Int32).toInt := Int32.le_iff_toInt_le.mp c_6
            rw [e1, zx] at u1
            have e2 : ((-10000) : Int32).toInt = -10000 := by decide
            have u2 : ¬ (-(a0)).toInt ≤ ((-10000) : Int32).toInt := fun z => c_8 (Int32.le_iff_toInt_le.mpr z)
            rw [e2, zx] at u2
            have hk : ky_d a0.toInt.natAbs = 4 := ky_lo (lo := 1000) (hi := 10000) (k := 3) (by omega) (by omega) (by decide) (by decide) (by decide)
            have hP9 := hP.sub (ws' := []) [] rfl
            have hD9 := hD.sub (ws' := []) [] (by decide) rfl
            refine W.widen (k := 0) (n := 0) (Nat.le_of_ble_eq_true rfl) (Nat.le_of_ble_eq_true rfl) ?_
            exact W.iret (v := (4 : Int32)) hx hb hr (fun t ht hW => ⟨⟨_, (), rfl, ky_szI_of rfl hk hd (by decide), by rw [ht]; exact hP9, hD9, trivial⟩, hS.F ht⟩) hS.2.2 dc_J6_stringSize_0f7a4_30
        · skip
          refine lv_iload_n hx hb dc_J6_stringSize_0f7a4_27 rfl (lv_at hl 0 rfl) ?_
          refine lv_iload_n hx hb dc_J6_stringSize_0f7a4_28 rfl (lv_at hl 3 rfl) ?_
          refine lv_iadd hx hb dc_J6_stringSize_0f7a4_29 ?_
          rw [show ((((3 : Int32)) + ((0 : Int32))) : Int32) = (3 : Int32) from by decide]
          have z0 := ky_posI c_0
          have zx : (-(a0)).toInt = -(a0.toInt.natAbs : Int) := by omega
          have hd : (if a0 < 0 then 1 else 0) = 0 := if_neg c_0
          have e1 : ((-100) : Int32).toInt = -100 := by decide
          have u1 : (-(a0)).toInt ≤ ((-100) : Int32).toInt := Int32.le_iff_toInt_le.mp c_4
          rw [e1, zx] at u1
          have e2 : ((-1000) : Int32).toInt = -1000 := by decide
          have u2 : ¬ (-(a0)).toInt ≤ ((-1000) : Int32).toInt := fun z => c_6 (Int32.le_iff_toInt_le.mpr z)
          rw [e2, zx] at u2
          have hk : ky_d a0.toInt.natAbs = 3 := ky_lo (lo := 100) (hi := 1000) (k := 2) (by omega) (by omega) (by decide) (by decide) (by decide)
          have hP9 := hP.sub (ws' := []) [] rfl
          have hD9 := hD.sub (ws' := []) [] (by decide) rfl
          refine W.widen (k := 0) (n := 0) (Nat.le_of_ble_eq_true rfl) (Nat.le_of_ble_eq_true rfl) ?_
          exact W.iret (v := (3 : Int32)) hx hb hr (fun t ht hW => ⟨⟨_, (), rfl, ky_szI_of rfl hk hd (by decide), by rw [ht]; exact hP9, hD9, trivial⟩, hS.F ht⟩) hS.2.2 dc_J6_stringSize_0f7a4_30
      · skip
        refine lv_iload_n hx hb dc_J6_stringSize_0f7a4_27 rfl (lv_at hl 0 rfl) ?_
        refine lv_iload_n hx hb dc_J6_stringSize_0f7a4_28 rfl (lv_at hl 3 rfl) ?_
        refine lv_iadd hx hb dc_J6_stringSize_0f7a4_29 ?_
        rw [show ((((2 : Int32)) + ((0 : Int32))) : Int32) = (2 : Int32) from by decide]
        have z0 := ky_posI c_0
        have zx : (-(a0)).toInt = -(a0.toInt.natAbs : Int) := by omega
        have hd : (if a0 < 0 then 1 else 0) = 0 := if_neg c_0
        have e1 : ((-10) : Int32).toInt = -10 := by decide
        have u1 : (-(a0)).toInt ≤ ((-10) : Int32).toInt := Int32.le_iff_toInt_le.mp c_2
        rw [e1, zx] at u1
        have e2 : ((-100) : Int32).toInt = -100 := by decide
        have u2 : ¬ (-(a0)).toInt ≤ ((-100) : Int32).toInt := fun z => c_4 (Int32.le_iff_toInt_le.mpr z)
        rw [e2, zx] at u2
        have hk : ky_d a0.toInt.natAbs = 2 := ky_lo (lo := 10) (hi := 100) (k := 1) (by omega) (by omega) (by decide) (by decide) (by decide)
        have hP9 := hP.sub (ws' := []) [] rfl
        have hD9 := hD.sub (ws' := []) [] (by decide) rfl
        refine W.widen (k := 0) (n := 0) (Nat.le_of_ble_eq_true rfl) (Nat.le_of_ble_eq_true rfl) ?_
        exact W.iret (v := (2 : Int32)) hx hb hr (fun t ht hW => ⟨⟨_, (), rfl, ky_szI_of rfl hk hd (by decide), by rw [ht]; exact hP9, hD9, trivial⟩, hS.F ht⟩) hS.2.2 dc_J6_stringSize_0f7a4_30
    · skip
      refine lv_iload_n hx hb dc_J6_stringSize_0f7a4_27 rfl (lv_at hl 0 rfl) ?_
      refine lv_iload_n hx hb dc_J6_stringSize_0f7a4_28 rfl (lv_at hl 3 rfl) ?_
      refine lv_iadd hx hb dc_J6_stringSize_0f7a4_29 ?_
      rw [show ((((1 : Int32)) + ((0 : Int32))) : Int32) = (1 : Int32) from by decide]
      have z0 := ky_posI c_0
      have zx : (-(a0)).toInt = -(a0.toInt.natAbs : Int) := by omega
      have hd : (if a0 < 0 then 1 else 0) = 0 := if_neg c_0
      have e2 : ((-10) : Int32).toInt = -10 := by decide
      have u2 : ¬ (-(a0)).toInt ≤ ((-10) : Int32).toInt := fun z => c_2 (Int32.le_iff_toInt_le.mpr z)
      rw [e2, zx] at u2
      have hk : ky_d a0.toInt.natAbs = 1 := ky_d10 (by omega)
      have hP9 := hP.sub (ws' := []) [] rfl
      have hD9 := hD.sub (ws' := []) [] (by decide) rfl
      refine W.widen (k := 0) (n := 0) (Nat.le_of_ble_eq_true rfl) (Nat.le_of_ble_eq_true rfl) ?_
      exact W.iret (v := (1 : Int32)) hx hb hr (fun t ht hW => ⟨⟨_, (), rfl, ky_szI_of rfl hk hd (by decide), by rw [ht]; exact hP9, hD9, trivial⟩, hS.F ht⟩) hS.2.2 dc_J6_stringSize_0f7a4_30
set_option linter.constructorNameAsVariable false in
set_option maxHeartbeats 4000000 in
set_option maxRecDepth 100000 in
theorem mt_J13_stringSize_95d88 (l : Launch) (G : ky_G) (a0 : Int64) (sz : Nat)  : Met l my_J13_stringSize_95d88 (.code my_J13_stringSize_95d88 prog_19_method_15_code 6 (some .int) :: ky_B) { frames := 0, cells := 0, slots := 0, locals := 0 } (ky_P G [.long (a0)] ([]) sz (fun _ => True)) (ky_Q (S := Unit) G (va_A ([]) sz) (fun v _ => v = some (.int (nI (ky_szJ a0)))) (fun _ => []) (fun _ _ => True)) (0) (0) (va_A ([]) sz) := by
  refine ky_start (by decide) (Nat.le_of_ble_eq_true rfl) (fun p e s m below meth c F hE A hAe hsz hA hfr hP hD hS hX ls hl => ?_)
  obtain ⟨hx, hb, hml, hown, hr, hlocks, hts⟩ := id F
  have hl : lv_has ls 6 [(0, .long (a0))] := hl
  have hP : va_P G.1 kcl [] s.heap := hP
  have hD : va_D A [] := hD
  refine lv_iconst (v := 1) hx hb dc_J13_stringSize_95d88_0 (by decide) ?_
  refine lv_istore_n (lv' := [(2, .int ((1 : Int32))), (0, .long (a0))]) hx hb dc_J13_stringSize_95d88_1 rfl hl (by decide) rfl (fun ls hl => ?_)
  refine lv_lload_n hx hb dc_J13_stringSize_95d88_2 rfl (lv_at hl 1 rfl) ?_
  refine lv_lconst (v := 0) hx hb dc_J13_stringSize_95d88_3 (by decide) ?_
  refine W.lcmp hx hb dc_J13_stringSize_95d88_4 ?_
  refine lv_if_lt (tgt := 13) hx hb dc_J13_stringSize_95d88_5 (by decide) (fun c_0 => ?_) (fun c_0 => ?_)
  · skip
    refine lv_ldc2 (v := (-10)) hx hb hown (hts _ kw_7_71) dc_J13_stringSize_95d88_13 ?_
    refine lv_lstore_n (lv' := [(3, .long ((-10 : Int64))), (2, .int ((1 : Int32))), (0, .long (a0))]) hx hb dc_J13_stringSize_95d88_16 rfl hl (by decide) rfl (fun ls hl => ?_)
    refine lv_iconst (v := 1) hx hb dc_J13_stringSize_95d88_17 (by decide) ?_
    refine lv_istore (lv' := [(5, .int ((1 : Int32))), (3, .long ((-10 : Int64))), (2, .int ((1 : Int32))), (0, .long (a0))]) hx hb dc_J13_stringSize_95d88_18 hl (by decide) rfl (fun ls hl => ?_)
    refine lv_iload hx hb dc_J13_stringSize_95d88_20 (lv_at hl 0 rfl) ?_
    refine lv_bipush (v := 19) hx hb dc_J13_stringSize_95d88_22 (by decide) ?_
    refine lv_icmp_ge (tgt := 50) hx hb dc_J13_stringSize_95d88_24 (by decide) (fun c_1 => absurd c_1 (by decide)) (fun _ => ?_)
    refine lv_lload_n hx hb dc_J13_stringSize_95d88_27 rfl (lv_at hl 3 rfl) ?_
    refine lv_lload_n hx hb dc_J13_stringSize_95d88_28 rfl (lv_at hl 1 rfl) ?_
    refine W.lcmp hx hb dc_J13_stringSize_95d88_29 ?_
    refine lv_if_le (tgt := 38) hx hb dc_J13_stringSize_95d88_30 (by decide) (fun c_2 => ?_) (fun c_2 => ?_)
    · skip
      refine lv_ldc2 (v := 10) hx hb hown (hts _ kw_7_72) dc_J13_stringSize_95d88_38 ?_
      refine lv_lload_n hx hb dc_J13_stringSize_95d88_41 rfl (lv_at hl 1 rfl) ?_
      refine lv_lmul hx hb dc_J13_stringSize_95d88_42 ?_
      rw [show ((((10 : Int64)) * ((-10 : Int64))) : Int64) = (-100 : Int64) from by decide]
      refine lv_lstore_n (lv' := [(3, .long ((-100 : Int64))), (5, .int ((1 : Int32))), (2, .int ((1 : Int32))), (0, .long (a0))]) hx hb dc_J13_stringSize_95d88_43 rfl hl (by decide) rfl (fun ls hl => ?_)
      refine lv_iinc (v := (2 : Int32)) (lv' := [(5, .int ((2 : Int32))), (3, .long ((-100 : Int64))), (2, .int ((1 : Int32))), (0, .long (a0))]) hx hb dc_J13_stringSize_95d88_44 hl (k := 1) rfl (by decide) (by decide) rfl (fun ls hl => ?_)
      refine lv_goto (tgt := 20) hx hb dc_J13_stringSize_95d88_47 (by decide) ?_
      refine lv_iload hx hb dc_J13_stringSize_95d88_20 (lv_at hl 0 rfl) ?_
      refine lv_bipush (v := 19) hx hb dc_J13_stringSize_95d88_22 (by decide) ?_
      refine lv_icmp_ge (tgt := 50) hx hb dc_J13_stringSize_95d88_24 (by decide) (fun c_3 => absurd c_3 (by decide)) (fun _ => ?_)
      refine lv_lload_n hx hb dc_J13_stringSize_95d88_27 rfl (lv_at hl 3 rfl) ?_
      refine lv_lload_n hx hb dc_J13_stringSize_95d88_28 rfl (lv_at hl 1 rfl) ?_
      refine W.lcmp hx hb dc_J13_stringSize_95d88_29 ?_
      refine lv_if_le (tgt := 38) hx hb dc_J13_stringSize_95d88_30 (by decide) (fun c_4 => ?_) (fun c_4 => ?_)
      · skip
        refine lv_ldc2 (v := 10) hx hb hown (hts _ kw_7_72) dc_J13_stringSize_95d88_38 ?_
        refine lv_lload_n hx hb dc_J13_stringSize_95d88_41 rfl (lv_at hl 1 rfl) ?_
        refine lv_lmul hx hb dc_J13_stringSize_95d88_42 ?_
        rw [show ((((10 : Int64)) * ((-100 : Int64))) : Int64) = (-1000 : Int64) from by decide]
        refine lv_lstore_n (lv' := [(3, .long ((-1000 : Int64))), (5, .int ((2 : Int32))), (2, .int ((1 : Int32))), (0, .long (a0))]) hx hb dc_J13_stringSize_95d88_43 rfl hl (by decide) rfl (fun ls hl => ?_)
        refine lv_iinc (v := (3 : Int32)) (lv' := [(5, .int ((3 : Int32))), (3, .long ((-1000 : Int64))), (2, .int ((1 : Int32))), (0, .long (a0))]) hx hb dc_J13_stringSize_95d88_44 hl (k := 1) rfl (by decide) (by decide) rfl (fun ls hl => ?_)
        refine lv_goto (tgt := 20) hx hb dc_J13_stringSize_95d88_47 (by decide) ?_
        refine lv_iload hx hb dc_J13_stringSize_95d88_20 (lv_at hl 0 rfl) ?_
        refine lv_bipush (v := 19) hx hb dc_J13_stringSize_95d88_22 (by decide) ?_
        refine lv_icmp_ge (tgt := 50) hx hb dc_J13_stringSize_95d88_24 (by decide) (fun c_5 => absurd c_5 (by decide)) (fun _ => ?_)
        refine lv_lload_n hx hb dc_J13_stringSize_95d88_27 rfl (lv_at hl 3 rfl) ?_
        refine lv_lload_n hx hb dc_J13_stringSize_95d88_28 rfl (lv_at hl 1 rfl) ?_
        refine W.lcmp hx hb dc_J13_stringSize_95d88_29 ?_
        refine lv_if_le (tgt := 38) hx hb dc_J13_stringSize_95d88_30 (by decide) (fun c_6 => ?_) (fun c_6 => ?_)
        · skip
          refine lv_ldc2 (v := 10) hx hb hown (hts _ kw_7_72) dc_J13_stringSize_95d88_38 ?_
          refine lv_lload_n hx hb dc_J13_stringSize_95d88_41 rfl (lv_at hl 1 rfl) ?_
          refine lv_lmul hx hb dc_J13_stringSize_95d88_42 ?_
          rw [show ((((10 : Int64)) * ((-1000 : Int64))) : Int64) = (-10000 : Int64) from by decide]
          refine lv_lstore_n (lv' := [(3, .long ((-10000 : Int64))), (5, .int ((3 : Int32))), (2, .int ((1 : Int32))), (0, .long (a0))]) hx hb dc_J13_stringSize_95d88_43 rfl hl (by decide) rfl (fun ls hl => ?_)
          refine lv_iinc (v := (4 : Int32)) (lv' := [(5, .int ((4 : Int32))), (3, .long ((-10000 : Int64))), (2, .int ((1 : Int32))), (0, .long (a0))]) hx hb dc_J13_stringSize_95d88_44 hl (k := 1) rfl (by decide) (by decide) rfl (fun ls hl => ?_)
          refine lv_goto (tgt := 20) hx hb dc_J13_stringSize_95d88_47 (by decide) ?_
          refine lv_iload hx hb dc_J13_stringSize_95d88_20 (lv_at hl 0 rfl) ?_
          refine lv_bipush (v := 19) hx hb dc_J13_stringSize_95d88_22 (by decide) ?_
          refine lv_icmp_ge (tgt := 50) hx hb dc_J13_stringSize_95d88_24 (by decide) (fun c_7 => absurd c_7 (by decide)) (fun _ => ?_)
          refine lv_lload_n hx hb dc_J13_stringSize_95d88_27 rfl (lv_at hl 3 rfl) ?_
          refine lv_lload_n hx hb dc_J13_stringSize_95d88_28 rfl (lv_at hl 1 rfl) ?_
          refine W.lcmp hx hb dc_J13_stringSize_95d88_29 ?_
          refine lv_if_le (tgt := 38) hx hb dc_J13_stringSize_95d88_30 (by decide) (fun c_8 => ?_) (fun c_8 => ?_)
          · skip
            refine lv_ldc2 (v := 10) hx hb hown (hts _ kw_7_72) dc_J13_stringSize_95d88_38 ?_
            refine lv_lload_n hx hb dc_J13_stringSize_95d88_41 rfl (lv_at hl 1 rfl) ?_
            refine lv_lmul hx hb dc_J13_stringSize_95d88_42 ?_
            rw [show ((((10 : Int64)) * ((-10000 : Int64))) : Int64) = (-100000 : Int64) from by decide]
            refine lv_lstore_n (lv' := [(3, .long ((-100000 : Int64))), (5, .int ((4 : Int32))), (2, .int ((1 : Int32))), (0, .long (a0))]) hx hb dc_J13_stringSize_95d88_43 rfl hl (by decide) rfl (fun ls hl => ?_)
            refine lv_iinc (v := (5 : Int32)) (lv' := [(5, .int ((5 : Int32))), (3, .long ((-100000 : Int64))), (2, .int ((1 : Int32))), (0, .long (a0))]) hx hb dc_J13_stringSize_95d88_44 hl (k := 1) rfl (by decide) (by decide) rfl (fun ls hl => ?_)
            refine lv_goto (tgt := 20) hx hb dc_J13_stringSize_95d88_47 (by decide) ?_
            refine lv_iload hx hb dc_J13_stringSize_95d88_20 (lv_at hl 0 rfl) ?_
            refine lv_bipush (v := 19) hx hb dc_J13_stringSize_95d88_22 (by decide) ?_
            refine lv_icmp_ge (tgt := 50) hx hb dc_J13_stringSize_95d88_24 (by decide) (fun c_9 => absurd c_9 (by decide)) (fun _ => ?_)
            refine lv_lload_n hx hb dc_J13_stringSize_95d88_27 rfl (lv_at hl 3 rfl) ?_
            refine lv_lload_n hx hb dc_J13_stringSize_95d88_28 rfl (lv_at hl 1 rfl) ?_
            refine W.lcmp hx hb dc_J13_stringSize_95d88_29 ?_
            refine lv_if_le (tgt := 38) hx hb dc_J13_stringSize_95d88_30 (by decide) (fun c_10 => ?_) (fun c_10 => ?_)
            · skip
              refine lv_ldc2 (v := 10) hx hb hown (hts _ kw_7_72) dc_J13_stringSize_95d88_38 ?_
              refine lv_lload_n hx hb dc_J13_stringSize_95d88_41 rfl (lv_at hl 1 rfl) ?_
              refine lv_lmul hx hb dc_J13_stringSize_95d88_42 ?_
              rw [show ((((10 : Int64)) * ((-100000 : Int64))) : Int64) = (-1000000 : Int64) from by decide]
              refine lv_lstore_n (lv' := [(3, .long ((-1000000 : Int64))), (5, .int ((5 : Int32))), (2, .int ((1 : Int32))), (0, .long (a0))]) hx hb dc_J13_stringSize_95d88_43 rfl hl (by decide) rfl (fun ls hl => ?_)
              refine lv_iinc (v := (6 : Int32)) (lv' := [(5, .int ((6 : Int32))), (3, .long ((-1000000 : Int64))), (2, .int ((1 : Int32))), (0, .long (a0))]) hx hb dc_J13_stringSize_95d88_44 hl (k := 1) rfl (by decide) (by decide) rfl (fun ls hl => ?_)
              refine lv_goto (tgt := 20) hx hb dc_J13_stringSize_95d88_47 (by decide) ?_
              refine lv_iload hx hb dc_J13_stringSize_95d88_20 (lv_at hl 0 rfl) ?_
              refine lv_bipush (v := 19) hx hb dc_J13_stringSize_95d88_22 (by decide) ?_
              refine lv_icmp_ge (tgt := 50) hx hb dc_J13_stringSize_95d88_24 (by decide) (fun c_11 => absurd c_11 (by decide)) (fun _ => ?_)
              refine lv_lload_n hx hb dc_J13_stringSize_95d88_27 rfl (lv_at hl 3 rfl) ?_
              refine lv_lload_n hx hb dc_J13_stringSize_95d88_28 rfl (lv_at hl 1 rfl) ?_
              refine W.lcmp hx hb dc_J13_stringSize_95d88_29 ?_
              refine lv_if_le (tgt := 38) hx hb dc_J13_stringSize_95d88_30 (by decide) (fun c_12 => ?_) (fun c_12 => ?_)
              · skip
                refine lv_ldc2 (v := 10) hx hb hown (hts _ kw_7_72) dc_J13_stringSize_95d88_38 ?_
                refine lv_lload_n hx hb dc_J13_stringSize_95d88_41 rfl (lv_at hl 1 rfl) ?_
                refine lv_lmul hx hb dc_J13_stringSize_95d88_42 ?_
                rw [show ((((10 : Int64)) * ((-1000000 : Int64))) : Int64) = (-10000000 : Int64) from by decide]
                refine lv_lstore_n (lv' := [(3, .long ((-10000000 : Int64))), (5, .int ((6 : Int32))), (2, .int ((1 : Int32))), (0, .long (a0))]) hx hb dc_J13_stringSize_95d88_43 rfl hl (by decide) rfl (fun ls hl => ?_)
                refine lv_iinc (v := (7 : Int32)) (lv' := [(5, .int ((7 : Int32))), (3, .long ((-10000000 : Int64))), (2, .int ((1 : Int32))), (0, .long (a0))]) hx hb dc_J13_stringSize_95d88_44 hl (k := 1) rfl (by decide) (by decide) rfl (fun ls hl => ?_)
                refine lv_goto (tgt := 20) hx hb dc_J13_stringSize_95d88_47 (by decide) ?_
                refine lv_iload hx hb dc_J13_stringSize_95d88_20 (lv_at hl 0 rfl) ?_
                refine lv_bipush (v := 19) hx hb dc_J13_stringSize_95d88_22 (by decide) ?_
                refine lv_icmp_ge (tgt := 50) hx hb dc_J13_stringSize_95d88_24 (by decide) (fun c_13 => absurd c_13 (by decide)) (fun _ => ?_)
                refine lv_lload_n hx hb dc_J13_stringSize_95d88_27 rfl (lv_at hl 3 rfl) ?_
                refine lv_lload_n hx hb dc_J13_stringSize_95d88_28 rfl (lv_at hl 1 rfl) ?_
                refine W.lcmp hx hb dc_J13_stringSize_95d88_29 ?_
                refine lv_if_le (tgt := 38) hx hb dc_J13_stringSize_95d88_30 (by decide) (fun c_14 => ?_) (fun c_14 => ?_)
                · skip
                  refine lv_ldc2 (v := 10) hx hb hown (hts _ kw_7_72) dc_J13_stringSize_95d88_38 ?_
                  refine lv_lload_n hx hb dc_J13_stringSize_95d88_41 rfl (lv_at hl 1 rfl) ?_
                  refine lv_lmul hx hb dc_J13_stringSize_95d88_42 ?_
                  rw [show ((((10 : Int64)) * ((-10000000 : Int64))) : Int64) = (-100000000 : Int64) from by decide]
                  refine lv_lstore_n (lv' := [(3, .long ((-100000000 : Int64))), (5, .int ((7 : Int32))), (2, .int ((1 : Int32))), (0, .long (a0))]) hx hb dc_J13_stringSize_95d88_43 rfl hl (by decide) rfl (fun ls hl => ?_)
                  refine lv_iinc (v := (8 : Int32)) (lv' := [(5, .int ((8 : Int32))), (3, .long ((-100000000 : Int64))), (2, .int ((1 : Int32))), (0, .long (a0))]) hx hb dc_J13_stringSize_95d88_44 hl (k := 1) rfl (by decide) (by decide) rfl (fun ls hl => ?_)
                  refine lv_goto (tgt := 20) hx hb dc_J13_stringSize_95d88_47 (by decide) ?_
                  refine lv_iload hx hb dc_J13_stringSize_95d88_20 (lv_at hl 0 rfl) ?_
                  refine lv_bipush (v := 19) hx hb dc_J13_stringSize_95d88_22 (by decide) ?_
                  refine lv_icmp_ge (tgt := 50) hx hb dc_J13_stringSize_95d88_24 (by decide) (fun c_15 => absurd c_15 (by decide)) (fun _ => ?_)
                  refine lv_lload_n hx hb dc_J13_stringSize_95d88_27 rfl (lv_at hl 3 rfl) ?_
                  refine lv_lload_n hx hb dc_J13_stringSize_95d88_28 rfl (lv_at hl 1 rfl) ?_
                  refine W.lcmp hx hb dc_J13_stringSize_95d88_29 ?_
                  refine lv_if_le (tgt := 38) hx hb dc_J13_stringSize_95d88_30 (by decide) (fun c_16 => ?_) (fun c_16 => ?_)
                  · skip
                    refine lv_ldc2 (v := 10) hx hb hown (hts _ kw_7_72) dc_J13_stringSize_95d88_38 ?_
                    refine lv_lload_n hx hb dc_J13_stringSize_95d88_41 rfl (lv_at hl 1 rfl) ?_
                    refine lv_lmul hx hb dc_J13_stringSize_95d88_42 ?_
                    rw [show ((((10 : Int64)) * ((-100000000 : Int64))) : Int64) = (-1000000000 : Int64) from by decide]
                    refine lv_lstore_n (lv' := [(3, .long ((-1000000000 : Int64))), (5, .int ((8 : Int32))), (2, .int ((1 : Int32))), (0, .long (a0))]) hx hb dc_J13_stringSize_95d88_43 rfl hl (by decide) rfl (fun ls hl => ?_)
                    refine lv_iinc (v := (9 : Int32)) (lv' := [(5, .int ((9 : Int32))), (3, .long ((-1000000000 : Int64))), (2, .int ((1 : Int32))), (0, .long (a0))]) hx hb dc_J13_stringSize_95d88_44 hl (k := 1) rfl (by decide) (by decide) rfl (fun ls hl => ?_)
                    refine lv_goto (tgt := 20) hx hb dc_J13_stringSize_95d88_47 (by decide) ?_
                    refine lv_iload hx hb dc_J13_stringSize_95d88_20 (lv_at hl 0 rfl) ?_
                    refine lv_bipush (v := 19) hx hb dc_J13_stringSize_95d88_22 (by decide) ?_
                    refine lv_icmp_ge (tgt := 50) hx hb dc_J13_stringSize_95d88_24 (by decide) (fun c_17 => absurd c_17 (by decide)) (fun _ => ?_)
                    refine lv_lload_n hx hb dc_J13_stringSize_95d88_27 rfl (lv_at hl 3 rfl) ?_
                    refine lv_lload_n hx hb dc_J13_stringSize_95d88_28 rfl (lv_at hl 1 rfl) ?_
                    refine W.lcmp hx hb dc_J13_stringSize_95d88_29 ?_
                    refine lv_if_le (tgt := 38) hx hb dc_J13_stringSize_95d88_30 (by decide) (fun c_18 => ?_) (fun c_18 => ?_)
                    · skip
                      refine lv_ldc2 (v := 10) hx hb hown (hts _ kw_7_72) dc_J13_stringSize_95d88_38 ?_
                      refine lv_lload_n hx hb dc_J13_stringSize_95d88_41 rfl (lv_at hl 1 rfl) ?_
                      refine lv_lmul hx hb dc_J13_stringSize_95d88_42 ?_
                      rw [show ((((10 : Int64)) * ((-1000000000 : Int64))) : Int64) = (-10000000000 : Int64) from by decide]
                      refine lv_lstore_n (lv' := [(3, .long ((-10000000000 : Int64))), (5, .int ((9 : Int32))), (2, .int ((1 : Int32))), (0, .long (a0))]) hx hb dc_J13_stringSize_95d88_43 rfl hl (by decide) rfl (fun ls hl => ?_)
                      refine lv_iinc (v := (10 : Int32)) (lv' := [(5, .int ((10 : Int32))), (3, .long ((-10000000000 : Int64))), (2, .int ((1 : Int32))), (0, .long (a0))]) hx hb dc_J13_stringSize_95d88_44 hl (k := 1) rfl (by decide) (by decide) rfl (fun ls hl => ?_)
                      refine lv_goto (tgt := 20) hx hb dc_J13_stringSize_95d88_47 (by decide) ?_
                      refine lv_iload hx hb dc_J13_stringSize_95d88_20 (lv_at hl 0 rfl) ?_
                      refine lv_bipush (v := 19) hx hb dc_J13_stringSize_95d88_22 (by decide) ?_
                      refine lv_icmp_ge (tgt := 50) hx hb dc_J13_stringSize_95d88_24 (by decide) (fun c_19 => absurd c_19 (by decide)) (fun _ => ?_)
                      refine lv_lload_n hx hb dc_J13_stringSize_95d88_27 rfl (lv_at hl 3 rfl) ?_
                      refine lv_lload_n hx hb dc_J13_stringSize_95d88_28 rfl (lv_at hl 1 rfl) ?_
                      refine W.lcmp hx hb dc_J13_stringSize_95d88_29 ?_
                      refine lv_if_le (tgt := 38) hx hb dc_J13_stringSize_95d88_30 (by decide) (fun c_20 => ?_) (fun c_20 => ?_)
                      · skip
                        refine lv_ldc2 (v := 10) hx hb hown (hts _ kw_7_72) dc_J13_stringSize_95d88_38 ?_
                        refine lv_lload_n hx hb dc_J13_stringSize_95d88_41 rfl (lv_at hl 1 rfl) ?_
                        refine lv_lmul hx hb dc_J13_stringSize_95d88_42 ?_
                        rw [show ((((10 : Int64)) * ((-10000000000 : Int64))) : Int64) = (-100000000000 : Int64) from by decide]
                        refine lv_lstore_n (lv' := [(3, .long ((-100000000000 : Int64))), (5, .int ((10 : Int32))), (2, .int ((1 : Int32))), (0, .long (a0))]) hx hb dc_J13_stringSize_95d88_43 rfl hl (by decide) rfl (fun ls hl => ?_)
                        refine lv_iinc (v := (11 : Int32)) (lv' := [(5, .int ((11 : Int32))), (3, .long ((-100000000000 : Int64))), (2, .int ((1 : Int32))), (0, .long (a0))]) hx hb dc_J13_stringSize_95d88_44 hl (k := 1) rfl (by decide) (by decide) rfl (fun ls hl => ?_)
                        refine lv_goto (tgt := 20) hx hb dc_J13_stringSize_95d88_47 (by decide) ?_
                        refine lv_iload hx hb dc_J13_stringSize_95d88_20 (lv_at hl 0 rfl) ?_
                        refine lv_bipush (v := 19) hx hb dc_J13_stringSize_95d88_22 (by decide) ?_
                        refine lv_icmp_ge (tgt := 50) hx hb dc_J13_stringSize_95d88_24 (by decide) (fun c_21 => absurd c_21 (by decide)) (fun _ => ?_)
                        refine lv_lload_n hx hb dc_J13_stringSize_95d88_27 rfl (lv_at hl 3 rfl) ?_
                        refine lv_lload_n hx hb dc_J13_stringSize_95d88_28 rfl (lv_at hl 1 rfl) ?_
                        refine W.lcmp hx hb dc_J13_stringSize_95d88_29 ?_
                        refine lv_if_le (tgt := 38) hx hb dc_J13_stringSize_95d88_30 (by decide) (fun c_22 => ?_) (fun c_22 => ?_)
                        · skip
                          refine lv_ldc2 (v := 10) hx hb hown (hts _ kw_7_72) dc_J13_stringSize_95d88_38 ?_
                          refine lv_lload_n hx hb dc_J13_stringSize_95d88_41 rfl (lv_at hl 1 rfl) ?_
                          refine lv_lmul hx hb dc_J13_stringSize_95d88_42 ?_
                          rw [show ((((10 : Int64)) * ((-100000000000 : Int64))) : Int64) = (-1000000000000 : Int64) from by decide]
                          refine lv_lstore_n (lv' := [(3, .long ((-1000000000000 : Int64))), (5, .int ((11 : Int32))), (2, .int ((1 : Int32))), (0, .long (a0))]) hx hb dc_J13_stringSize_95d88_43 rfl hl (by decide) rfl (fun ls hl => ?_)
                          refine lv_iinc (v := (12 : Int32)) (lv' := [(5, .int ((12 : Int32))), (3, .long ((-1000000000000 : Int64))), (2, .int ((1 : Int32))), (0, .long (a0))]) hx hb dc_J13_stringSize_95d88_44 hl (k := 1) rfl (by decide) (by decide) rfl (fun ls hl => ?_)
                          refine lv_goto (tgt := 20) hx hb dc_J13_stringSize_95d88_47 (by decide) ?_
                          refine lv_iload hx hb dc_J13_stringSize_95d88_20 (lv_at hl 0 rfl) ?_
                          refine lv_bipush (v := 19) hx hb dc_J13_stringSize_95d88_22 (by decide) ?_
                          refine lv_icmp_ge (tgt := 50) hx hb dc_J13_stringSize_95d88_24 (by decide) (fun c_23 => absurd c_23 (by decide)) (fun _ => ?_)
                          refine lv_lload_n hx hb dc_J13_stringSize_95d88_27 rfl (lv_at hl 3 rfl) ?_
                          refine lv_lload_n hx hb dc_J13_stringSize_95d88_28 rfl (lv_at hl 1 rfl) ?_
                          refine W.lcmp hx hb dc_J13_stringSize_95d88_29 ?_
                          refine lv_if_le (tgt := 38) hx hb dc_J13_stringSize_95d88_30 (by decide) (fun c_24 => ?_) (fun c_24 => ?_)
                          · skip
                            refine lv_ldc2 (v := 10) hx hb hown (hts _ kw_7_72) dc_J13_stringSize_95d88_38 ?_
                            refine lv_lload_n hx hb dc_J13_stringSize_95d88_41 rfl (lv_at hl 1 rfl) ?_
                            refine lv_lmul hx hb dc_J13_stringSize_95d88_42 ?_
                            rw [show ((((10 : Int64)) * ((-1000000000000 : Int64))) : Int64) = (-10000000000000 : Int64) from by decide]
                            refine lv_lstore_n (lv' := [(3, .long ((-10000000000000 : Int64))), (5, .int ((12 : Int32))), (2, .int ((1 : Int32))), (0, .long (a0))]) hx hb dc_J13_stringSize_95d88_43 rfl hl (by decide) rfl (fun ls hl => ?_)
                            refine lv_iinc (v := (13 : Int32)) (lv' := [(5, .int ((13 : Int32))), (3, .long ((-10000000000000 : Int64))), (2, .int ((1 : Int32))), (0, .long (a0))]) hx hb dc_J13_stringSize_95d88_44 hl (k := 1) rfl (by decide) (by decide) rfl (fun ls hl => ?_)
                            refine lv_goto (tgt := 20) hx hb dc_J13_stringSize_95d88_47 (by decide) ?_
                            refine lv_iload hx hb dc_J13_stringSize_95d88_20 (lv_at hl 0 rfl) ?_
                            refine lv_bipush (v := 19) hx hb dc_J13_stringSize_95d88_22 (by decide) ?_
                            refine lv_icmp_ge (tgt := 50) hx hb dc_J13_stringSize_95d88_24 (by decide) (fun c_25 => absurd c_25 (by decide)) (fun _ => ?_)
                            refine lv_lload_n hx hb dc_J13_stringSize_95d88_27 rfl (lv_at hl 3 rfl) ?_
                            refine lv_lload_n hx hb dc_J13_stringSize_95d88_28 rfl (lv_at hl 1 rfl) ?_
                            refine W.lcmp hx hb dc_J13_stringSize_95d88_29 ?_
                            refine lv_if_le (tgt := 38) hx hb dc_J13_stringSize_95d88_30 (by decide) (fun c_26 => ?_) (fun c_26 => ?_)
                            · skip
                              refine lv_ldc2 (v := 10) hx hb hown (hts _ kw_7_72) dc_J13_stringSize_95d88_38 ?_
                              refine lv_lload_n hx hb dc_J13_stringSize_95d88_41 rfl (lv_at hl 1 rfl) ?_
                              refine lv_lmul hx hb dc_J13_stringSize_95d88_42 ?_
                              rw [show ((((10 : Int64)) * ((-10000000000000 : Int64))) : Int64) = (-100000000000000 : Int64) from by decide]
                              refine lv_lstore_n (lv' := [(3, .long ((-100000000000000 : Int64))), (5, .int ((13 : Int32))), (2, .int ((1 : Int32))), (0, .long (a0))]) hx hb dc_J13_stringSize_95d88_43 rfl hl (by decide) rfl (fun ls hl => ?_)
                              refine lv_iinc (v := (14 : Int32)) (lv' := [(5, .int ((14 : Int32))), (3, .long ((-100000000000000 : Int64))), (2, .int ((1 : Int32))), (0, .long (a0))]) hx hb dc_J13_stringSize_95d88_44 hl (k := 1) rfl (by decide) (by decide) rfl (fun ls hl => ?_)
                              refine lv_goto (tgt := 20) hx hb dc_J13_stringSize_95d88_47 (by decide) ?_
                              refine lv_iload hx hb dc_J13_stringSize_95d88_20 (lv_at hl 0 rfl) ?_
                              refine lv_bipush (v := 19) hx hb dc_J13_stringSize_95d88_22 (by decide) ?_
                              refine lv_icmp_ge (tgt := 50) hx hb dc_J13_stringSize_95d88_24 (by decide) (fun c_27 => absurd c_27 (by decide)) (fun _ => ?_)
                              refine lv_lload_n hx hb dc_J13_stringSize_95d88_27 rfl (lv_at hl 3 rfl) ?_
                              refine lv_lload_n hx hb dc_J13_stringSize_95d88_28 rfl (lv_at hl 1 rfl) ?_
                              refine W.lcmp hx hb dc_J13_stringSize_95d88_29 ?_
                              refine lv_if_le (tgt := 38) hx hb dc_J13_stringSize_95d88_30 (by decide) (fun c_28 => ?_) (fun c_28 => ?_)
                              · skip
                                refine lv_ldc2 (v := 10) hx hb hown (hts _ kw_7_72) dc_J13_stringSize_95d88_38 ?_
                                refine lv_lload_n hx hb dc_J13_stringSize_95d88_41 rfl (lv_at hl 1 rfl) ?_
                                refine lv_lmul hx hb dc_J13_stringSize_95d88_42 ?_
                                rw [show ((((10 : Int64)) * ((-100000000000000 : Int64))) : Int64) = (-1000000000000000 : Int64) from by decide]
                                refine lv_lstore_n (lv' := [(3, .long ((-1000000000000000 : Int64))), (5, .int ((14 : Int32))), (2, .int ((1 : Int32))), (0, .long (a0))]) hx hb dc_J13_stringSize_95d88_43 rfl hl (by decide) rfl (fun ls hl => ?_)
                                refine lv_iinc (v := (15 : Int32)) (lv' := [(5, .int ((15 : Int32))), (3, .long ((-1000000000000000 : Int64))), (2, .int ((1 : Int32))), (0, .long (a0))]) hx hb dc_J13_stringSize_95d88_44 hl (k := 1) rfl (by decide) (by decide) rfl (fun ls hl => ?_)
                                refine lv_goto (tgt := 20) hx hb dc_J13_stringSize_95d88_47 (by decide) ?_
                                refine lv_iload hx hb dc_J13_stringSize_95d88_20 (lv_at hl 0 rfl) ?_
                                refine lv_bipush (v := 19) hx hb dc_J13_stringSize_95d88_22 (by decide) ?_
                                refine lv_icmp_ge (tgt := 50) hx hb dc_J13_stringSize_95d88_24 (by decide) (fun c_29 => absurd c_29 (by decide)) (fun _ => ?_)
                                refine lv_lload_n hx hb dc_J13_stringSize_95d88_27 rfl (lv_at hl 3 rfl) ?_
                                refine lv_lload_n hx hb dc_J13_stringSize_95d88_28 rfl (lv_at hl 1 rfl) ?_
                                refine W.lcmp hx hb dc_J13_stringSize_95d88_29 ?_
                                refine lv_if_le (tgt := 38) hx hb dc_J13_stringSize_95d88_30 (by decide) (fun c_30 => ?_) (fun c_30 => ?_)
                                · skip
                                  refine lv_ldc2 (v := 10) hx hb hown (hts _ kw_7_72) dc_J13_stringSize_95d88_38 ?_
                                  refine lv_lload_n hx hb dc_J13_stringSize_95d88_41 rfl (lv_at hl 1 rfl) ?_
                                  refine lv_lmul hx hb dc_J13_stringSize_95d88_42 ?_
                                  rw [show ((((10 : Int64)) * ((-1000000000000000 : Int64))) : Int64) = (-10000000000000000 : Int64) from by decide]
                                  refine lv_lstore_n (lv' := [(3, .long ((-10000000000000000 : Int64))), (5, .int ((15 : Int32))), (2, .int ((1 : Int32))), (0, .long (a0))]) hx hb dc_J13_stringSize_95d88_43 rfl hl (by decide) rfl (fun ls hl => ?_)
                                  refine lv_iinc (v := (16 : Int32)) (lv' := [(5, .int ((16 : Int32))), (3, .long ((-10000000000000000 : Int64))), (2, .int ((1 : Int32))), (0, .long (a0))]) hx hb dc_J13_stringSize_95d88_44 hl (k := 1) rfl (by decide) (by decide) rfl (fun ls hl => ?_)
                                  refine lv_goto (tgt := 20) hx hb dc_J13_stringSize_95d88_47 (by decide) ?_
                                  refine lv_iload hx hb dc_J13_stringSize_95d88_20 (lv_at hl 0 rfl) ?_
                                  refine lv_bipush (v := 19) hx hb dc_J13_stringSize_95d88_22 (by decide) ?_
                                  refine lv_icmp_ge (tgt := 50) hx hb dc_J13_stringSize_95d88_24 (by decide) (fun c_31 => absurd c_31 (by decide)) (fun _ => ?_)
                                  refine lv_lload_n hx hb dc_J13_stringSize_95d88_27 rfl (lv_at hl 3 rfl) ?_
                                  refine lv_lload_n hx hb dc_J13_stringSize_95d88_28 rfl (lv_at hl 1 rfl) ?_
                                  refine W.lcmp hx hb dc_J13_stringSize_95d88_29 ?_
                                  refine lv_if_le (tgt := 38) hx hb dc_J13_stringSize_95d88_30 (by decide) (fun c_32 => ?_) (fun c_32 => ?_)
                                  · skip
                                    refine lv_ldc2 (v := 10) hx hb hown (hts _ kw_7_72) dc_J13_stringSize_95d88_38 ?_
                                    refine lv_lload_n hx hb dc_J13_stringSize_95d88_41 rfl (lv_at hl 1 rfl) ?_
                                    refine lv_lmul hx hb dc_J13_stringSize_95d88_42 ?_
                                    rw [show ((((10 : Int64)) * ((-10000000000000000 : Int64))) : Int64) = (-100000000000000000 : Int64) from by decide]
                                    refine lv_lstore_n (lv' := [(3, .long ((-100000000000000000 : Int64))), (5, .int ((16 : Int32))), (2, .int ((1 : Int32))), (0, .long (a0))]) hx hb dc_J13_stringSize_95d88_43 rfl hl (by decide) rfl (fun ls hl => ?_)
                                    refine lv_iinc (v := (17 : Int32)) (lv' := [(5, .int ((17 : Int32))), (3, .long ((-100000000000000000 : Int64))), (2, .int ((1 : Int32))), (0, .long (a0))]) hx hb dc_J13_stringSize_95d88_44 hl (k := 1) rfl (by decide) (by decide) rfl (fun ls hl => ?_)
                                    refine lv_goto (tgt := 20) hx hb dc_J13_stringSize_95d88_47 (by decide) ?_
                                    refine lv_iload hx hb dc_J13_stringSize_95d88_20 (lv_at hl 0 rfl) ?_
                                    refine lv_bipush (v := 19) hx hb dc_J13_stringSize_95d88_22 (by decide) ?_
                                    refine lv_icmp_ge (tgt := 50) hx hb dc_J13_stringSize_95d88_24 (by decide) (fun c_33 => absurd c_33 (by decide)) (fun _ => ?_)
                                    refine lv_lload_n hx hb dc_J13_stringSize_95d88_27 rfl (lv_at hl 3 rfl) ?_
                                    refine lv_lload_n hx hb dc_J13_stringSize_95d88_28 rfl (lv_at hl 1 rfl) ?_
                                    refine W.lcmp hx hb dc_J13_stringSize_95d88_29 ?_
                                    refine lv_if_le (tgt := 38) hx hb dc_J13_stringSize_95d88_30 (by decide) (fun c_34 => ?_) (fun c_34 => ?_)
                                    · skip
                                      refine lv_ldc2 (v := 10) hx hb hown (hts _ kw_7_72) dc_J13_stringSize_95d88_38 ?_
                                      refine lv_lload_n hx hb dc_J13_stringSize_95d88_41 rfl (lv_at hl 1 rfl) ?_
                                      refine lv_lmul hx hb dc_J13_stringSize_95d88_42 ?_
                                      rw [show ((((10 : Int64)) * ((-100000000000000000 : Int64))) : Int64) = (-1000000000000000000 : Int64) from by decide]
                                      refine lv_lstore_n (lv' := [(3, .long ((-1000000000000000000 : Int64))), (5, .int ((17 : Int32))), (2, .int ((1 : Int32))), (0, .long (a0))]) hx hb dc_J13_stringSize_95d88_43 rfl hl (by decide) rfl (fun ls hl => ?_)
                                      refine lv_iinc (v := (18 : Int32)) (lv' := [(5, .int ((18 : Int32))), (3, .long ((-1000000000000000000 : Int64))), (2, .int ((1 : Int32))), (0, .long (a0))]) hx hb dc_J13_stringSize_95d88_44 hl (k := 1) rfl (by decide) (by decide) rfl (fun ls hl => ?_)
                                      refine lv_goto (tgt := 20) hx hb dc_J13_stringSize_95d88_47 (by decide) ?_
                                      refine lv_iload hx hb dc_J13_stringSize_95d88_20 (lv_at hl 0 rfl) ?_
                                      refine lv_bipush (v := 19) hx hb dc_J13_stringSize_95d88_22 (by decide) ?_
                                      refine lv_icmp_ge (tgt := 50) hx hb dc_J13_stringSize_95d88_24 (by decide) (fun c_35 => absurd c_35 (by decide)) (fun _ => ?_)
                                      refine lv_lload_n hx hb dc_J13_stringSize_95d88_27 rfl (lv_at hl 3 rfl) ?_
                                      refine lv_lload_n hx hb dc_J13_stringSize_95d88_28 rfl (lv_at hl 1 rfl) ?_
                                      refine W.lcmp hx hb dc_J13_stringSize_95d88_29 ?_
                                      refine lv_if_le (tgt := 38) hx hb dc_J13_stringSize_95d88_30 (by decide) (fun c_36 => ?_) (fun c_36 => ?_)
                                      · skip
                                        refine lv_ldc2 (v := 10) hx hb hown (hts _ kw_7_72) dc_J13_stringSize_95d88_38 ?_
                                        refine lv_lload_n hx hb dc_J13_stringSize_95d88_41 rfl (lv_at hl 1 rfl) ?_
                                        refine lv_lmul hx hb dc_J13_stringSize_95d88_42 ?_
                                        rw [show ((((10 : Int64)) * ((-1000000000000000000 : Int64))) : Int64) = (8446744073709551616 : Int64) from by decide]
                                        refine lv_lstore_n (lv' := [(3, .long ((8446744073709551616 : Int64))), (5, .int ((18 : Int32))), (2, .int ((1 : Int32))), (0, .long (a0))]) hx hb dc_J13_stringSize_95d88_43 rfl hl (by decide) rfl (fun ls hl => ?_)
                                        refine lv_iinc (v := (19 : Int32)) (lv' := [(5, .int ((19 : Int32))), (3, .long ((8446744073709551616 : Int64))), (2, .int ((1 : Int32))), (0, .long (a0))]) hx hb dc_J13_stringSize_95d88_44 hl (k := 1) rfl (by decide) (by decide) rfl (fun ls hl => ?_)
                                        refine lv_goto (tgt := 20) hx hb dc_J13_stringSize_95d88_47 (by decide) ?_
                                        refine lv_iload hx hb dc_J13_stringSize_95d88_20 (lv_at hl 0 rfl) ?_
                                        refine lv_bipush (v := 19) hx hb dc_J13_stringSize_95d88_22 (by decide) ?_
                                        refine lv_icmp_ge (tgt := 50) hx hb dc_J13_stringSize_95d88_24 (by decide) (fun _ => ?_) (fun c_37 => absurd c_37 (by decide))
                                        refine lv_bipush (v := 19) hx hb dc_J13_stringSize_95d88_50 (by decide) ?_
                                        refine lv_iload_n hx hb dc_J13_stringSize_95d88_52 rfl (lv_at hl 2 rfl) ?_
                                        refine lv_iadd hx hb dc_J13_stringSize_95d88_53 ?_
                                        rw [show ((((19 : Int32)) + ((1 : Int32))) : Int32) = (20 : Int32) from by decide]
                                        have c_0 := (lg_cmp_lt _ _).mp c_0
                                        have z0 := ky_negJ c_0
                                        have zx : a0.toInt = -(a0.toInt.natAbs : Int) := by omega
                                        have hd : (if a0 < 0 then 1 else 0) = 1 := if_pos c_0
                                        have e1 : ((-1000000000000000000) : Int64).toInt = -1000000000000000000 := by decide
                                        have u1 : a0.toInt ≤ ((-1000000000000000000) : Int64).toInt := Int64.le_iff_toInt_le.mp ((lg_cmp_le _ _).mp c_36)
                                        rw [e1, zx] at u1
                                        have u3 := Int64.le_toInt a0
                                        have u4 := Int64.toInt_lt a0
                                        have hk : ky_d a0.toInt.natAbs = 19 := ky_lo (lo := 1000000000000000000) (hi := 10000000000000000000) (k := 18) (by omega) (by omega) (by decide) (by decide) (by decide)
                                        have hP9 := hP.sub (ws' := []) [] rfl
                                        have hD9 := hD.sub (ws' := []) [] (by decide) rfl
                                        refine W.widen (k := 0) (n := 0) (Nat.le_of_ble_eq_true rfl) (Nat.le_of_ble_eq_true rfl) ?_
                                        exact W.iret (v := (20 : Int32)) hx hb hr (fun t ht hW => ⟨⟨_, (), rfl, ky_szJ_of rfl hk hd (by decide), by rw [ht]; exact hP9, hD9, trivial⟩, hS.F ht⟩) hS.2.2 dc_J13_stringSize_95d88_54
                                      · skip
                                        refine lv_iload hx hb dc_J13_stringSize_95d88_33 (lv_at hl 0 rfl) ?_
                                        refine lv_iload_n hx hb dc_J13_stringSize_95d88_35 rfl (lv_at hl 2 rfl) ?_
                                        refine lv_iadd hx hb dc_J13_stringSize_95d88_36 ?_
                                        rw [show ((((18 : Int32)) + ((1 : Int32))) : Int32) = (19 : Int32) from by decide]
                                        have c_0 := (lg_cmp_lt _ _).mp c_0
                                        have z0 := ky_negJ c_0
                                        have zx : a0.toInt = -(a0.toInt.natAbs : Int) := by omega
                                        have hd : (if a0 < 0 then 1 else 0) = 1 := if_pos c_0
                                        have e1 : ((-100000000000000000) : Int64).toInt = -100000000000000000 := by decide
                                        have u1 : a0.toInt ≤ ((-100000000000000000) : Int64).toInt := Int64.le_iff_toInt_le.mp ((lg_cmp_le _ _).mp c_34)
                                        rw [e1, zx] at u1
                                        have e2 : ((-1000000000000000000) : Int64).toInt = -1000000000000000000 := by decide
                                        have u2 : ¬ a0.toInt ≤ ((-1000000000000000000) : Int64).toInt := fun z => c_36 ((lg_cmp_le _ _).mpr (Int64.le_iff_toInt_le.mpr z))
                                        rw [e2, zx] at u2
                                        have hk : ky_d a0.toInt.natAbs = 18 := ky_lo (lo := 100000000000000000) (hi := 1000000000000000000) (k := 17) (by omega) (by omega) (by decide) (by decide) (by decide)
                                        have hP9 := hP.sub (ws' := []) [] rfl
                                        have hD9 := hD.sub (ws' := []) [] (by decide) rfl
                                        refine W.widen (k := 0) (n := 0) (Nat.le_of_ble_eq_true rfl) (Nat.le_of_ble_eq_true rfl) ?_
                                        exact W.iret (v := (19 : Int32)) hx hb hr (fun t ht hW => ⟨⟨_, (), rfl, ky_szJ_of rfl hk hd (by decide), by rw [ht]; exact hP9, hD9, trivial⟩, hS.F ht⟩) hS.2.2 dc_J13_stringSize_95d88_37
                                    · skip
                                      refine lv_iload hx hb dc_J13_stringSize_95d88_33 (lv_at hl 0 rfl) ?_
                                      refine lv_iload_n hx hb dc_J13_stringSize_95d88_35 rfl (lv_at hl 2 rfl) ?_
                                      refine lv_iadd hx hb dc_J13_stringSize_95d88_36 ?_
                                      rw [show ((((17 : Int32)) + ((1 : Int32))) : Int32) = (18 : Int32) from by decide]
                                      have c_0 := (lg_cmp_lt _ _).mp c_0
                                      have z0 := ky_negJ c_0
                                      have zx : a0.toInt = -(a0.toInt.natAbs : Int) := by omega
                                      have hd : (if a0 < 0 then 1 else 0) = 1 := if_pos c_0
                                      have e1 : ((-10000000000000000) : Int64).toInt = -10000000000000000 := by decide
                                      have u1 : a0.toInt ≤ ((-10000000000000000) : Int64).toInt := Int64.le_iff_toInt_le.mp ((lg_cmp_le _ _).mp c_32)
                                      rw [e1, zx] at u1
                                      have e2 : ((-100000000000000000) : Int64).toInt = -100000000000000000 := by decide
                                      have u2 : ¬ a0.toInt ≤ ((-100000000000000000) : Int64).toInt := fun z => c_34 ((lg_cmp_le _ _).mpr (Int64.le_iff_toInt_le.mpr z))
                                      rw [e2, zx] at u2
                                      have hk : ky_d a0.toInt.natAbs = 17 := ky_lo (lo := 10000000000000000) (hi := 100000000000000000) (k := 16) (by omega) (by omega) (by decide) (by decide) (by decide)
                                      have hP9 := hP.sub (ws' := []) [] rfl
                                      have hD9 := hD.sub (ws' := []) [] (by decide) rfl
                                      refine W.widen (k := 0) (n := 0) (Nat.le_of_ble_eq_true rfl) (Nat.le_of_ble_eq_true rfl) ?_
                                      exact W.iret (v := (18 : Int32)) hx hb hr (fun t ht hW => ⟨⟨_, (), rfl, ky_szJ_of rfl hk hd (by decide), by rw [ht]; exact hP9, hD9, trivial⟩, hS.F ht⟩) hS.2.2 dc_J13_stringSize_95d88_37
                                  · skip
                                    refine lv_iload hx hb dc_J13_stringSize_95d88_33 (lv_at hl 0 rfl) ?_
                                    refine lv_iload_n hx hb dc_J13_stringSize_95d88_35 rfl (lv_at hl 2 rfl) ?_
                                    refine lv_iadd hx hb dc_J13_stringSize_95d88_36 ?_
                                    rw [show ((((16 : Int32)) + ((1 : Int32))) : Int32) = (17 : Int32) from by decide]
                                    have c_0 := (lg_cmp_lt _ _).mp c_0
                                    have z0 := ky_negJ c_0
                                    have zx : a0.toInt = -(a0.toInt.natAbs : Int) := by omega
                                    have hd : (if a0 < 0 then 1 else 0) = 1 := if_pos c_0
                                    have e1 : ((-1000000000000000) : Int64).toInt = -1000000000000000 := by decide
                                    have u1 : a0.toInt ≤ ((-1000000000000000) : Int64).toInt := Int64.le_iff_toInt_le.mp ((lg_cmp_le _ _).mp c_30)
                                    rw [e1, zx] at u1
                                    have e2 : ((-10000000000000000) : Int64).toInt = -10000000000000000 := by decide
                                    have u2 : ¬ a0.toInt ≤ ((-10000000000000000) : Int64).toInt := fun z => c_32 ((lg_cmp_le _ _).mpr (Int64.le_iff_toInt_le.mpr z))
                                    rw [e2, zx] at u2
                                    have hk : ky_d a0.toInt.natAbs = 16 := ky_lo (lo := 1000000000000000) (hi := 10000000000000000) (k := 15) (by omega) (by omega) (by decide) (by decide) (by decide)
                                    have hP9 := hP.sub (ws' := []) [] rfl
                                    have hD9 := hD.sub (ws' := []) [] (by decide) rfl
                                    refine W.widen (k := 0) (n := 0) (Nat.le_of_ble_eq_true rfl) (Nat.le_of_ble_eq_true rfl) ?_
                                    exact W.iret (v := (17 : Int32)) hx hb hr (fun t ht hW => ⟨⟨_, (), rfl, ky_szJ_of rfl hk hd (by decide), by rw [ht]; exact hP9, hD9, trivial⟩, hS.F ht⟩) hS.2.2 dc_J13_stringSize_95d88_37
                                · skip
                                  refine lv_iload hx hb dc_J13_stringSize_95d88_33 (lv_at hl 0 rfl) ?_
                                  refine lv_iload_n hx hb dc_J13_stringSize_95d88_35 rfl (lv_at hl 2 rfl) ?_
                                  refine lv_iadd hx hb dc_J13_stringSize_95d88_36 ?_
                                  rw [show ((((15 : Int32)) + ((1 : Int32))) : Int32) = (16 : Int32) from by decide]
                                  have c_0 := (lg_cmp_lt _ _).mp c_0
                                  have z0 := ky_negJ c_0
                                  have zx : a0.toInt = -(a0.toInt.natAbs : Int) := by omega
                                  have hd : (if a0 < 0 then 1 else 0) = 1 := if_pos c_0
                                  have e1 : ((-100000000000000) : Int64).toInt = -100000000000000 := by decide
                                  have u1 : a0.toInt ≤ ((-100000000000000) : Int64).toInt := Int64.le_iff_toInt_le.mp ((lg_cmp_le _ _).mp c_28)
                                  rw [e1, zx] at u1
                                  have e2 : ((-1000000000000000) : Int64).toInt = -1000000000000000 := by decide
                                  have u2 : ¬ a0.toInt ≤ ((-1000000000000000) : Int64).toInt := fun z => c_30 ((lg_cmp_le _ _).mpr (Int64.le_iff_toInt_le.mpr z))
                                  rw [e2, zx] at u2
                                  have hk : ky_d a0.toInt.natAbs = 15 := ky_lo (lo := 100000000000000) (hi := 1000000000000000) (k := 14) (by omega) (by omega) (by decide) (by decide) (by decide)
                                  have hP9 := hP.sub (ws' := []) [] rfl
                                  have hD9 := hD.sub (ws' := []) [] (by decide) rfl
                                  refine W.widen (k := 0) (n := 0) (Nat.le_of_ble_eq_true rfl) (Nat.le_of_ble_eq_true rfl) ?_
                                  exact W.iret (v := (16 : Int32)) hx hb hr (fun t ht hW => ⟨⟨_, (), rfl, ky_szJ_of rfl hk hd (by decide), by rw [ht]; exact hP9, hD9, trivial⟩, hS.F ht⟩) hS.2.2 dc_J13_stringSize_95d88_37
                              · skip
                                refine lv_iload hx hb dc_J13_stringSize_95d88_33 (lv_at hl 0 rfl) ?_
                                refine lv_iload_n hx hb dc_J13_stringSize_95d88_35 rfl (lv_at hl 2 rfl) ?_
                                refine lv_iadd hx hb dc_J13_stringSize_95d88_36 ?_
                                rw [show ((((14 : Int32)) + ((1 : Int32))) : Int32) = (15 : Int32) from by decide]
                                have c_0 := (lg_cmp_lt _ _).mp c_0
                                have z0 := ky_negJ c_0
                                have zx : a0.toInt = -(a0.toInt.natAbs : Int) := by omega
                                have hd : (if a0 < 0 then 1 else 0) = 1 := if_pos c_0
                                have e1 : ((-10000000000000) : Int64).toInt = -10000000000000 := by decide
                                have u1 : a0.toInt ≤ ((-10000000000000) : Int64).toInt := Int64.le_iff_toInt_le.mp ((lg_cmp_le _ _).mp c_26)
                                rw [e1, zx] at u1
                                have e2 : ((-100000000000000) : Int64).toInt = -100000000000000 := by decide
                                have u2 : ¬ a0.toInt ≤ ((-100000000000000) : Int64).toInt := fun z => c_28 ((lg_cmp_le _ _).mpr (Int64.le_iff_toInt_le.mpr z))
                                rw [e2, zx] at u2
                                have hk : ky_d a0.toInt.natAbs = 14 := ky_lo (lo := 10000000000000) (hi := 100000000000000) (k := 13) (by omega) (by omega) (by decide) (by decide) (by decide)
                                have hP9 := hP.sub (ws' := []) [] rfl
                                have hD9 := hD.sub (ws' := []) [] (by decide) rfl
                                refine W.widen (k := 0) (n := 0) (Nat.le_of_ble_eq_true rfl) (Nat.le_of_ble_eq_true rfl) ?_
                                exact W.iret (v := (15 : Int32)) hx hb hr (fun t ht hW => ⟨⟨_, (), rfl, ky_szJ_of rfl hk hd (by decide), by rw [ht]; exact hP9, hD9, trivial⟩, hS.F ht⟩) hS.2.2 dc_J13_stringSize_95d88_37
                            · skip
                              refine lv_iload hx hb dc_J13_stringSize_95d88_33 (lv_at hl 0 rfl) ?_
                              refine lv_iload_n hx hb dc_J13_stringSize_95d88_35 rfl (lv_at hl 2 rfl) ?_
                              refine lv_iadd hx hb dc_J13_stringSize_95d88_36 ?_
                              rw [show ((((13 : Int32)) + ((1 : Int32))) : Int32) = (14 : Int32) from by decide]
                              have c_0 := (lg_cmp_lt _ _).mp c_0
                              have z0 := ky_negJ c_0
                              have zx : a0.toInt = -(a0.toInt.natAbs : Int) := by omega
                              have hd : (if a0 < 0 then 1 else 0) = 1 := if_pos c_0
                              have e1 : ((-1000000000000) : Int64).toInt = -1000000000000 := by decide
                              have u1 : a0.toInt ≤ ((-1000000000000) : Int64).toInt := Int64.le_iff_toInt_le.mp ((lg_cmp_le _ _).mp c_24)
                              rw [e1, zx] at u1
                              have e2 : ((-10000000000000) : Int64).toInt = -10000000000000 := by decide
                              have u2 : ¬ a0.toInt ≤ ((-10000000000000) : Int64).toInt := fun z => c_26 ((lg_cmp_le _ _).mpr (Int64.le_iff_toInt_le.mpr z))
                              rw [e2, zx] at u2
                              have hk : ky_d a0.toInt.natAbs = 13 := ky_lo (lo := 1000000000000) (hi := 10000000000000) (k := 12) (by omega) (by omega) (by decide) (by decide) (by decide)
                              have hP9 := hP.sub (ws' := []) [] rfl
                              have hD9 := hD.sub (ws' := []) [] (by decide) rfl
                              refine W.widen (k := 0) (n := 0) (Nat.le_of_ble_eq_true rfl) (Nat.le_of_ble_eq_true rfl) ?_
                              exact W.iret (v := (14 : Int32)) hx hb hr (fun t ht hW => ⟨⟨_, (), rfl, ky_szJ_of rfl hk hd (by decide), by rw [ht]; exact hP9, hD9, trivial⟩, hS.F ht⟩) hS.2.2 dc_J13_stringSize_95d88_37
                          · skip
                            refine lv_iload hx hb dc_J13_stringSize_95d88_33 (lv_at hl 0 rfl) ?_
                            refine lv_iload_n hx hb dc_J13_stringSize_95d88_35 rfl (lv_at hl 2 rfl) ?_
                            refine lv_iadd hx hb dc_J13_stringSize_95d88_36 ?_
                            rw [show ((((12 : Int32)) + ((1 : Int32))) : Int32) = (13 : Int32) from by decide]
                            have c_0 := (lg_cmp_lt _ _).mp c_0
                            have z0 := ky_negJ c_0
                            have zx : a0.toInt = -(a0.toInt.natAbs : Int) := by omega
                            have hd : (if a0 < 0 then 1 else 0) = 1 := if_pos c_0
                            have e1 : ((-100000000000) : Int64).toInt = -100000000000 := by decide
                            have u1 : a0.toInt ≤ ((-100000000000) : Int64).toInt := Int64.le_iff_toInt_le.mp ((lg_cmp_le _ _).mp c_22)
                            rw [e1, zx] at u1
                            have e2 : ((-1000000000000) : Int64).toInt = -1000000000000 := by decide
                            have u2 : ¬ a0.toInt ≤ ((-1000000000000) : Int64).toInt := fun z => c_24 ((lg_cmp_le _ _).mpr (Int64.le_iff_toInt_le.mpr z))
                            rw [e2, zx] at u2
                            have hk : ky_d a0.toInt.natAbs = 12 := ky_lo (lo := 100000000000) (hi := 1000000000000) (k := 11) (by omega) (by omega) (by decide) (by decide) (by decide)
                            have hP9 := hP.sub (ws' := []) [] rfl
                            have hD9 := hD.sub (ws' := []) [] (by decide) rfl
                            refine W.widen (k := 0) (n := 0) (Nat.le_of_ble_eq_true rfl) (Nat.le_of_ble_eq_true rfl) ?_
                            exact W.iret (v := (13 : Int32)) hx hb hr (fun t ht hW => ⟨⟨_, (), rfl, ky_szJ_of rfl hk hd (by decide), by rw [ht]; exact hP9, hD9, trivial⟩, hS.F ht⟩) hS.2.2 dc_J13_stringSize_95d88_37
                        · skip
                          refine lv_iload hx hb dc_J13_stringSize_95d88_33 (lv_at hl 0 rfl) ?_
                          refine lv_iload_n hx hb dc_J13_stringSize_95d88_35 rfl (lv_at hl 2 rfl) ?_
                          refine lv_iadd hx hb dc_J13_stringSize_95d88_36 ?_
                          rw [show ((((11 : Int32)) + ((1 : Int32))) : Int32) = (12 : Int32) from by decide]
                          have c_0 := (lg_cmp_lt _ _).mp c_0
                          have z0 := ky_negJ c_0
                          have zx : a0.toInt = -(a0.toInt.natAbs : Int) := by omega
                          have hd : (if a0 < 0 then 1 else 0) = 1 := if_pos c_0
                          have e1 : ((-10000000000) : Int64).toInt = -10000000000 := by decide
                          have u1 : a0.toInt ≤ ((-10000000000) : Int64).toInt := Int64.le_iff_toInt_le.mp ((lg_cmp_le _ _).mp c_20)
                          rw [e1, zx] at u1
                          have e2 : ((-100000000000) : Int64).toInt = -100000000000 := by decide
                          have u2 : ¬ a0.toInt ≤ ((-100000000000) : Int64).toInt := fun z => c_22 ((lg_cmp_le _ _).mpr (Int64.le_iff_toInt_le.mpr z))
                          rw [e2, zx] at u2
                          have hk : ky_d a0.toInt.natAbs = 11 := ky_lo (lo := 10000000000) (hi := 100000000000) (k := 10) (by omega) (by omega) (by decide) (by decide) (by decide)
                          have hP9 := hP.sub (ws' := []) [] rfl
                          have hD9 := hD.sub (ws' := []) [] (by decide) rfl
                          refine W.widen (k := 0) (n := 0) (Nat.le_of_ble_eq_true rfl) (Nat.le_of_ble_eq_true rfl) ?_
                          exact W.iret (v := (12 : Int32)) hx hb hr (fun t ht hW => ⟨⟨_, (), rfl, ky_szJ_of rfl hk hd (by decide), by rw [ht]; exact hP9, hD9, trivial⟩, hS.F ht⟩) hS.2.2 dc_J13_stringSize_95d88_37
                      · skip
                        refine lv_iload hx hb dc_J13_stringSize_95d88_33 (lv_at hl 0 rfl) ?_
                        refine lv_iload_n hx hb dc_J13_stringSize_95d88_35 rfl (lv_at hl 2 rfl) ?_
                        refine lv_iadd hx hb dc_J13_stringSize_95d88_36 ?_
                        rw [show ((((10 : Int32)) + ((1 : Int32))) : Int32) = (11 : Int32) from by decide]
                        have c_0 := (lg_cmp_lt _ _).mp c_0
                        have z0 := ky_negJ c_0
                        have zx : a0.toInt = -(a0.toInt.natAbs : Int) := by omega
                        have hd : (if a0 < 0 then 1 else 0) = 1 := if_pos c_0
                        have e1 : ((-1000000000) : Int64).toInt = -1000000000 := by decide
                        have u1 : a0.toInt ≤ ((-1000000000) : Int64).toInt := Int64.le_iff_toInt_le.mp ((lg_cmp_le _ _).mp c_18)
                        rw [e1, zx] at u1
                        have e2 : ((-10000000000) : Int64).toInt = -10000000000 := by decide
                        have u2 : ¬ a0.toInt ≤ ((-10000000000) : Int64).toInt := fun z => c_20 ((lg_cmp_le _ _).mpr (Int64.le_iff_toInt_le.mpr z))
                        rw [e2, zx] at u2
                        have hk : ky_d a0.toInt.natAbs = 10 := ky_lo (lo := 1000000000) (hi := 10000000000) (k := 9) (by omega) (by omega) (by decide) (by decide) (by decide)
                        have hP9 := hP.sub (ws' := []) [] rfl
                        have hD9 := hD.sub (ws' := []) [] (by decide) rfl
                        refine W.widen (k := 0) (n := 0) (Nat.le_of_ble_eq_true rfl) (Nat.le_of_ble_eq_true rfl) ?_
                        exact W.iret (v := (11 : Int32)) hx hb hr (fun t ht hW => ⟨⟨_, (), rfl, ky_szJ_of rfl hk hd (by decide), by rw [ht]; exact hP9, hD9, trivial⟩, hS.F ht⟩) hS.2.2 dc_J13_stringSize_95d88_37
                    · skip
                      refine lv_iload hx hb dc_J13_stringSize_95d88_33 (lv_at hl 0 rfl) ?_
                      refine lv_iload_n hx hb dc_J13_stringSize_95d88_35 rfl (lv_at hl 2 rfl) ?_
                      refine lv_iadd hx hb dc_J13_stringSize_95d88_36 ?_
                      rw [show ((((9 : Int32)) + ((1 : Int32))) : Int32) = (10 : Int32) from by decide]
                      have c_0 := (lg_cmp_lt _ _).mp c_0
                      have z0 := ky_negJ c_0
                      have zx : a0.toInt = -(a0.toInt.natAbs : Int) := by omega
                      have hd : (if a0 < 0 then 1 else 0) = 1 := if_pos c_0
                      have e1 : ((-100000000) : Int64).toInt = -100000000 := by decide
                      have u1 : a0.toInt ≤ ((-100000000) : Int64).toInt := Int64.le_iff_toInt_le.mp ((lg_cmp_le _ _).mp c_16)
                      rw [e1, zx] at u1
                      have e2 : ((-1000000000) : Int64).toInt = -1000000000 := by decide
                      have u2 : ¬ a0.toInt ≤ ((-1000000000) : Int64).toInt := fun z => c_18 ((lg_cmp_le _ _).mpr (Int64.le_iff_toInt_le.mpr z))
                      rw [e2, zx] at u2
                      have hk : ky_d a0.toInt.natAbs = 9 := ky_lo (lo := 100000000) (hi := 1000000000) (k := 8) (by omega) (by omega) (by decide) (by decide) (by decide)
                      have hP9 := hP.sub (ws' := []) [] rfl
                      have hD9 := hD.sub (ws' := []) [] (by decide) rfl
                      refine W.widen (k := 0) (n := 0) (Nat.le_of_ble_eq_true rfl) (Nat.le_of_ble_eq_true rfl) ?_
                      exact W.iret (v := (10 : Int32)) hx hb hr (fun t ht hW => ⟨⟨_, (), rfl, ky_szJ_of rfl hk hd (by decide), by rw [ht]; exact hP9, hD9, trivial⟩, hS.F ht⟩) hS.2.2 dc_J13_stringSize_95d88_37
                  · skip
                    refine lv_iload hx hb dc_J13_stringSize_95d88_33 (lv_at hl 0 rfl) ?_
                    refine lv_iload_n hx hb dc_J13_stringSize_95d88_35 rfl (lv_at hl 2 rfl) ?_
                    refine lv_iadd hx hb dc_J13_stringSize_95d88_36 ?_
                    rw [show ((((8 : Int32)) + ((1 : Int32))) : Int32) = (9 : Int32) from by decide]
                    have c_0 := (lg_cmp_lt _ _).mp c_0
                    have z0 := ky_negJ c_0
                    have zx : a0.toInt = -(a0.toInt.natAbs : Int) := by omega
                    have hd : (if a0 < 0 then 1 else 0) = 1 := if_pos c_0
                    have e1 : ((-10000000) : Int64).toInt = -10000000 := by decide
                    have u1 : a0.toInt ≤ ((-10000000) : Int64).toInt := Int64.le_iff_toInt_le.mp ((lg_cmp_le _ _).mp c_14)
                    rw [e1, zx] at u1
                    have e2 : ((-100000000) : Int64).toInt = -100000000 := by decide
                    have u2 : ¬ a0.toInt ≤ ((-100000000) : Int64).toInt := fun z => c_16 ((lg_cmp_le _ _).mpr (Int64.le_iff_toInt_le.mpr z))
                    rw [e2, zx] at u2
                    have hk : ky_d a0.toInt.natAbs = 8 := ky_lo (lo := 10000000) (hi := 100000000) (k := 7) (by omega) (by omega) (by decide) (by decide) (by decide)
                    have hP9 := hP.sub (ws' := []) [] rfl
                    have hD9 := hD.sub (ws' := []) [] (by decide) rfl
                    refine W.widen (k := 0) (n := 0) (Nat.le_of_ble_eq_true rfl) (Nat.le_of_ble_eq_true rfl) ?_
                    exact W.iret (v := (9 : Int32)) hx hb hr (fun t ht hW => ⟨⟨_, (), rfl, ky_szJ_of rfl hk hd (by decide), by rw [ht]; exact hP9, hD9, trivial⟩, hS.F ht⟩) hS.2.2 dc_J13_stringSize_95d88_37
                · skip
                  refine lv_iload hx hb dc_J13_stringSize_95d88_33 (lv_at hl 0 rfl) ?_
                  refine lv_iload_n hx hb dc_J13_stringSize_95d88_35 rfl (lv_at hl 2 rfl) ?_
                  refine lv_iadd hx hb dc_J13_stringSize_95d88_36 ?_
                  rw [show ((((7 : Int32)) + ((1 : Int32))) : Int32) = (8 : Int32) from by decide]
                  have c_0 := (lg_cmp_lt _ _).mp c_0
                  have z0 := ky_negJ c_0
                  have zx : a0.toInt = -(a0.toInt.natAbs : Int) := by omega
                  have hd : (if a0 < 0 then 1 else 0) = 1 := if_pos c_0
                  have e1 : ((-1000000) : Int64).toInt = -1000000 := by decide
                  have u1 : a0.toInt ≤ ((-1000000) : Int64).toInt := Int64.le_iff_toInt_le.mp ((lg_cmp_le _ _).mp c_12)
                  rw [e1, zx] at u1
                  have e2 : ((-10000000) : Int64).toInt = -10000000 := by decide
                  have u2 : ¬ a0.toInt ≤ ((-10000000) : Int64).toInt := fun z => c_14 ((lg_cmp_le _ _).mpr (Int64.le_iff_toInt_le.mpr z))
                  rw [e2, zx] at u2
                  have hk : ky_d a0.toInt.natAbs = 7 := ky_lo (lo := 1000000) (hi := 10000000) (k := 6) (by omega) (by omega) (by decide) (by decide) (by decide)
                  have hP9 := hP.sub (ws' := []) [] rfl
                  have hD9 := hD.sub (ws' := []) [] (by decide) rfl
                  refine W.widen (k := 0) (n := 0) (Nat.le_of_ble_eq_true rfl) (Nat.le_of_ble_eq_true rfl) ?_
                  exact W.iret (v := (8 : Int32)) hx hb hr (fun t ht hW => ⟨⟨_, (), rfl, ky_szJ_of rfl hk hd (by decide), by rw [ht]; exact hP9, hD9, trivial⟩, hS.F ht⟩) hS.2.2 dc_J13_stringSize_95d88_37
              · skip
                refine lv_iload hx hb dc_J13_stringSize_95d88_33 (lv_at hl 0 rfl) ?_
                refine lv_iload_n hx hb dc_J13_stringSize_95d88_35 rfl (lv_at hl 2 rfl) ?_
                refine lv_iadd hx hb dc_J13_stringSize_95d88_36 ?_
                rw [show ((((6 : Int32)) + ((1 : Int32))) : Int32) = (7 : Int32) from by decide]
                have c_0 := (lg_cmp_lt _ _).mp c_0
                have z0 := ky_negJ c_0
                have zx : a0.toInt = -(a0.toInt.natAbs : Int) := by omega
                have hd : (if a0 < 0 then 1 else 0) = 1 := if_pos c_0
                have e1 : ((-100000) : Int64).toInt = -100000 := by decide
                have u1 : a0.toInt ≤ ((-100000) : Int64).toInt := Int64.le_iff_toInt_le.mp ((lg_cmp_le _ _).mp c_10)
                rw [e1, zx] at u1
                have e2 : ((-1000000) : Int64).toInt = -1000000 := by decide
                have u2 : ¬ a0.toInt ≤ ((-1000000) : Int64).toInt := fun z => c_12 ((lg_cmp_le _ _).mpr (Int64.le_iff_toInt_le.mpr z))
                rw [e2, zx] at u2
                have hk : ky_d a0.toInt.natAbs = 6 := ky_lo (lo := 100000) (hi := 1000000) (k := 5) (by omega) (by omega) (by decide) (by decide) (by decide)
                have hP9 := hP.sub (ws' := []) [] rfl
                have hD9 := hD.sub (ws' := []) [] (by decide) rfl
                refine W.widen (k := 0) (n := 0) (Nat.le_of_ble_eq_true rfl) (Nat.le_of_ble_eq_true rfl) ?_
                exact W.iret (v := (7 : Int32)) hx hb hr (fun t ht hW => ⟨⟨_, (), rfl, ky_szJ_of rfl hk hd (by decide), by rw [ht]; exact hP9, hD9, trivial⟩, hS.F ht⟩) hS.2.2 dc_J13_stringSize_95d88_37
            · skip
              refine lv_iload hx hb dc_J13_stringSize_95d88_33 (lv_at hl 0 rfl) ?_
              refine lv_iload_n hx hb dc_J13_stringSize_95d88_35 rfl (lv_at hl 2 rfl) ?_
              refine lv_iadd hx hb dc_J13_stringSize_95d88_36 ?_
              rw [show ((((5 : Int32)) + ((1 : Int32))) : Int32) = (6 : Int32) from by decide]
              have c_0 := (lg_cmp_lt _ _).mp c_0
              have z0 := ky_negJ c_0
              have zx : a0.toInt = -(a0.toInt.natAbs : Int) := by omega
              have hd : (if a0 < 0 then 1 else 0) = 1 := if_pos c_0
              have e1 : ((-10000) : Int64).toInt = -10000 := by decide
              have u1 : a0.toInt ≤ ((-10000) : Int64).toInt := Int64.le_iff_toInt_le.mp ((lg_cmp_le _ _).mp c_8)
              rw [e1, zx] at u1
              have e2 : ((-100000) : Int64).toInt = -100000 := by decide
              have u2 : ¬ a0.toInt ≤ ((-100000) : Int64).toInt := fun z => c_10 ((lg_cmp_le _ _).mpr (Int64.le_iff_toInt_le.mpr z))
              rw [e2, zx] at u2
              have hk : ky_d a0.toInt.natAbs = 5 := ky_lo (lo := 10000) (hi := 100000) (k := 4) (by omega) (by omega) (by decide) (by decide) (by decide)
              have hP9 := hP.sub (ws' := []) [] rfl
              have hD9 := hD.sub (ws' := []) [] (by decide) rfl
              refine W.widen (k := 0) (n := 0) (Nat.le_of_ble_eq_true rfl) (Nat.le_of_ble_eq_true rfl) ?_
              exact W.iret (v := (6 : Int32)) hx hb hr (fun t ht hW => ⟨⟨_, (), rfl, ky_szJ_of rfl hk hd (by decide), by rw [ht]; exact hP9, hD9, trivial⟩, hS.F ht⟩) hS.2.2 dc_J13_stringSize_95d88_37
          · skip
            refine lv_iload hx hb dc_J13_stringSize_95d88_33 (lv_at hl 0 rfl) ?_
            refine lv_iload_n hx hb dc_J13_stringSize_95d88_35 rfl (lv_at hl 2 rfl) ?_
            refine lv_iadd hx hb dc_J13_stringSize_95d88_36 ?_
            rw [show ((((4 : Int32)) + ((1 : Int32))) : Int32) = (5 : Int32) from by decide]
            have c_0 := (lg_cmp_lt _ _).mp c_0
            have z0 := ky_negJ c_0
            have zx : a0.toInt = -(a0.toInt.natAbs : Int) := by omega
            have hd : (if a0 < 0 then 1 else 0) = 1 := if_pos c_0
            have e1 : ((-1000) : Int64).toInt = -1000 := by decide
            have u1 : a0.toInt ≤ ((-1000) : Int64).toInt := Int64.le_iff_toInt_le.mp ((lg_cmp_le _ _).mp c_6)
            rw [e1, zx] at u1
            have e2 : ((-10000) : Int64).toInt = -10000 := by decide
            have u2 : ¬ a0.toInt ≤ ((-10000) : Int64).toInt := fun z => c_8 ((lg_cmp_le _ _).mpr (Int64.le_iff_toInt_le.mpr z))
            rw [e2, zx] at u2
            have hk : ky_d a0.toInt.natAbs = 4 := ky_lo (lo := 1000) (hi := 10000) (k := 3) (by omega) (by omega) (by decide) (by decide) (by decide)
            have hP9 := hP.sub (ws' := []) [] rfl
            have hD9 := hD.sub (ws' := []) [] (by decide) rfl
            refine W.widen (k := 0) (n := 0) (Nat.le_of_ble_eq_true rfl) (Nat.le_of_ble_eq_true rfl) ?_
            exact W.iret (v := (5 : Int32)) hx hb hr (fun t ht hW => ⟨⟨_, (), rfl, ky_szJ_of rfl hk hd (by decide), by rw [ht]; exact hP9, hD9, trivial⟩, hS.F ht⟩) hS.2.2 dc_J13_stringSize_95d88_37
        · skip
          refine lv_iload hx hb dc_J13_stringSize_95d88_33 (lv_at hl 0 rfl) ?_
          refine lv_iload_n hx hb dc_J13_stringSize_95d88_35 rfl (lv_at hl 2 rfl) ?_
          refine lv_iadd hx hb dc_J13_stringSize_95d88_36 ?_
          rw [show ((((3 : Int32)) + ((1 : Int32))) : Int32) = (4 : Int32) from by decide]
          have c_0 := (lg_cmp_lt _ _).mp c_0
          have z0 := ky_negJ c_0
          have zx : a0.toInt = -(a0.toInt.natAbs : Int) := by omega
          have hd : (if a0 < 0 then 1 else 0) = 1 := if_pos c_0
          have e1 : ((-100) : Int64).toInt = -100 := by decide
          have u1 : a0.toInt ≤ ((-100) : Int64).toInt := Int64.le_iff_toInt_le.mp ((lg_cmp_le _ _).mp c_4)
          rw [e1, zx] at u1
          have e2 : ((-1000) : Int64).toInt = -1000 := by decide
          have u2 : ¬ a0.toInt ≤ ((-1000) : Int64).toInt := fun z => c_6 ((lg_cmp_le _ _).mpr (Int64.le_iff_toInt_le.mpr z))
          rw [e2, zx] at u2
          have hk : ky_d a0.toInt.natAbs = 3 := ky_lo (lo := 100) (hi := 1000) (k := 2) (by omega) (by omega) (by decide) (by decide) (by decide)
          have hP9 := hP.sub (ws' := []) [] rfl
          have hD9 := hD.sub (ws' := []) [] (by decide) rfl
          refine W.widen (k := 0) (n := 0) (Nat.le_of_ble_eq_true rfl) (Nat.le_of_ble_eq_true rfl) ?_
          exact W.iret (v := (4 : Int32)) hx hb hr (fun t ht hW => ⟨⟨_, (), rfl, ky_szJ_of rfl hk hd (by decide), by rw [ht]; exact hP9, hD9, trivial⟩, hS.F ht⟩) hS.2.2 dc_J13_stringSize_95d88_37
      · skip
        refine lv_iload hx hb dc_J13_stringSize_95d88_33 (lv_at hl 0 rfl) ?_
        refine lv_iload_n hx hb dc_J13_stringSize_95d88_35 rfl (lv_at hl 2 rfl) ?_
        refine lv_iadd hx hb dc_J13_stringSize_95d88_36 ?_
        rw [show ((((2 : Int32)) + ((1 : Int32))) : Int32) = (3 : Int32) from by decide]
        have c_0 := (lg_cmp_lt _ _).mp c_0
        have z0 := ky_negJ c_0
        have zx : a0.toInt = -(a0.toInt.natAbs : Int) := by omega
        have hd : (if a0 < 0 then 1 else 0) = 1 := if_pos c_0
        have e1 : ((-10) : Int64).toInt = -10 := by decide
        have u1 : a0.toInt ≤ ((-10) : Int64).toInt := Int64.le_iff_toInt_le.mp ((lg_cmp_le _ _).mp c_2)
        rw [e1, zx] at u1
        have e2 : ((-100) : Int64).toInt = -100 := by decide
        have u2 : ¬ a0.toInt ≤ ((-100) : Int64).toInt := fun z => c_4 ((lg_cmp_le _ _).mpr (Int64.le_iff_toInt_le.mpr z))
        rw [e2, zx] at u2
        have hk : ky_d a0.toInt.natAbs = 2 := ky_lo (lo := 10) (hi := 100) (k := 1) (by omega) (by omega) (by decide) (by decide) (by decide)
        have hP9 := hP.sub (ws' := []) [] rfl
        have hD9 := hD.sub (ws' := []) [] (by decide) rfl
        refine W.widen (k := 0) (n := 0) (Nat.le_of_ble_eq_true rfl) (Nat.le_of_ble_eq_true rfl) ?_
        exact W.iret (v := (3 : Int32)) hx hb hr (fun t ht hW => ⟨⟨_, (), rfl, ky_szJ_of rfl hk hd (by decide), by rw [ht]; exact hP9, hD9, trivial⟩, hS.F ht⟩) hS.2.2 dc_J13_stringSize_95d88_37
    · skip
      refine lv_iload hx hb dc_J13_stringSize_95d88_33 (lv_at hl 0 rfl) ?_
      refine lv_iload_n hx hb dc_J13_stringSize_95d88_35 rfl (lv_at hl 2 rfl) ?_
      refine lv_iadd hx hb dc_J13_stringSize_95d88_36 ?_
      rw [show ((((1 : Int32)) + ((1 : Int32))) : Int32) = (2 : Int32) from by decide]
      have c_0 := (lg_cmp_lt _ _).mp c_0
      have z0 := ky_negJ c_0
      have zx : a0.toInt = -(a0.toInt.natAbs : Int) := by omega
      have hd : (if a0 < 0 then 1 else 0) = 1 := if_pos c_0
      have e2 : ((-10) : Int64).toInt = -10 := by decide
      have u2 : ¬ a0.toInt ≤ ((-10) : Int64).toInt := fun z => c_2 ((lg_cmp_le _ _).mpr (Int64.le_iff_toInt_le.mpr z))
      rw [e2, zx] at u2
      have hk : ky_d a0.toInt.natAbs = 1 := ky_d10 (by omega)
      have hP9 := hP.sub (ws' := []) [] rfl
      have hD9 := hD.sub (ws' := []) [] (by decide) rfl
      refine W.widen (k := 0) (n := 0) (Nat.le_of_ble_eq_true rfl) (Nat.le_of_ble_eq_true rfl) ?_
      exact W.iret (v := (2 : Int32)) hx hb hr (fun t ht hW => ⟨⟨_, (), rfl, ky_szJ_of rfl hk hd (by decide), by rw [ht]; exact hP9, hD9, trivial⟩, hS.F ht⟩) hS.2.2 dc_J13_stringSize_95d88_37
  · skip
    refine lv_iconst (v := 0) hx hb dc_J13_stringSize_95d88_8 (by decide) ?_
    refine lv_istore_n (lv' := [(2, .int ((0 : Int32))), (0, .long (a0))]) hx hb dc_J13_stringSize_95d88_9 rfl hl (by decide) rfl (fun ls hl => ?_)
    refine lv_lload_n hx hb dc_J13_stringSize_95d88_10 rfl (lv_at hl 1 rfl) ?_
    refine lv_lneg hx hb dc_J13_stringSize_95d88_11 ?_
    refine lv_lstore_n (lv' := [(0, .long (-(a0))), (2, .int ((0 : Int32)))]) hx hb dc_J13_stringSize_95d88_12 rfl hl (by decide) rfl (fun ls hl => ?_)
    refine lv_ldc2 (v := (-10)) hx hb hown (hts _ kw_7_71) dc_J13_stringSize_95d88_13 ?_
    refine lv_lstore_n (lv' := [(3, .long ((-10 : Int64))), (0, .long (-(a0))), (2, .int ((0 : Int32)))]) hx hb dc_J13_stringSize_95d88_16 rfl hl (by decide) rfl (fun ls hl => ?_)
    refine lv_iconst (v := 1) hx hb dc_J13_stringSize_95d88_17 (by decide) ?_
    refine lv_istore (lv' := [(5, .int ((1 : Int32))), (3, .long ((-10 : Int64))), (0, .long (-(a0))), (2, .int ((0 : Int32)))]) hx hb dc_J13_stringSize_95d88_18 hl (by decide) rfl (fun ls hl => ?_)
    refine lv_iload hx hb dc_J13_stringSize_95d88_20 (lv_at hl 0 rfl) ?_
    refine lv_bipush (v := 19) hx hb dc_J13_stringSize_95d88_22 (by decide) ?_
    refine lv_icmp_ge (tgt := 50) hx hb dc_J13_stringSize_95d88_24 (by decide) (fun c_1 => absurd c_1 (by decide)) (fun _ => ?_)
    refine lv_lload_n hx hb dc_J13_stringSize_95d88_27 rfl (lv_at hl 2 rfl) ?_
    refine lv_lload_n hx hb dc_J13_stringSize_95d88_28 rfl (lv_at hl 1 rfl) ?_
    refine W.lcmp hx hb dc_J13_stringSize_95d88_29 ?_
    refine lv_if_le (tgt := 38) hx hb dc_J13_stringSize_95d88_30 (by decide) (fun c_2 => ?_) (fun c_2 => ?_)
    · skip
      refine lv_ldc2 (v := 10) hx hb hown (hts _ kw_7_72) dc_J13_stringSize_95d88_38 ?_
      refine lv_lload_n hx hb dc_J13_stringSize_95d88_41 rfl (lv_at hl 1 rfl) ?_
      refine lv_lmul hx hb dc_J13_stringSize_95d88_42 ?_
      rw [show ((((10 : Int64)) * ((-10 : Int64))) : Int64) = (-100 : Int64) from by decide]
      refine lv_lstore_n (lv' := [(3, .long ((-100 : Int64))), (5, .int ((1 : Int32))), (0, .long (-(a0))), (2, .int ((0 : Int32)))]) hx hb dc_J13_stringSize_95d88_43 rfl hl (by decide) rfl (fun ls hl => ?_)
      refine lv_iinc (v := (2 : Int32)) (lv' := [(5, .int ((2 : Int32))), (3, .long ((-100 : Int64))), (0, .long (-(a0))), (2, .int ((0 : Int32)))]) hx hb dc_J13_stringSize_95d88_44 hl (k := 1) rfl (by decide) (by decide) rfl (fun ls hl => ?_)
      refine lv_goto (tgt := 20) hx hb dc_J13_stringSize_95d88_47 (by decide) ?_
      refine lv_iload hx hb dc_J13_stringSize_95d88_20 (lv_at hl 0 rfl) ?_
      refine lv_bipush (v := 19) hx hb dc_J13_stringSize_95d88_22 (by decide) ?_
      refine lv_icmp_ge (tgt := 50) hx hb dc_J13_stringSize_95d88_24 (by decide) (fun c_3 => absurd c_3 (by decide)) (fun _ => ?_)
      refine lv_lload_n hx hb dc_J13_stringSize_95d88_27 rfl (lv_at hl 2 rfl) ?_
      refine lv_lload_n hx hb dc_J13_stringSize_95d88_28 rfl (lv_at hl 1 rfl) ?_
      refine W.lcmp hx hb dc_J13_stringSize_95d88_29 ?_
      refine lv_if_le (tgt := 38) hx hb dc_J13_stringSize_95d88_30 (by decide) (fun c_4 => ?_) (fun c_4 => ?_)
      · skip
        refine lv_ldc2 (v := 10) hx hb hown (hts _ kw_7_72) dc_J13_stringSize_95d88_38 ?_
        refine lv_lload_n hx hb dc_J13_stringSize_95d88_41 rfl (lv_at hl 1 rfl) ?_
        refine lv_lmul hx hb dc_J13_stringSize_95d88_42 ?_
        rw [show ((((10 : Int64)) * ((-100 : Int64))) : Int64) = (-1000 : Int64) from by decide]
        refine lv_lstore_n (lv' := [(3, .long ((-1000 : Int64))), (5, .int ((2 : Int32))), (0, .long (-(a0))), (2, .int ((0 : Int32)))]) hx hb dc_J13_stringSize_95d88_43 rfl hl (by decide) rfl (fun ls hl => ?_)
        refine lv_iinc (v := (3 : Int32)) (lv' := [(5, .int ((3 : Int32))), (3, .long ((-1000 : Int64))), (0, .long (-(a0))), (2, .int ((0 : Int32)))]) hx hb dc_J13_stringSize_95d88_44 hl (k := 1) rfl (by decide) (by decide) rfl (fun ls hl => ?_)
        refine lv_goto (tgt := 20) hx hb dc_J13_stringSize_95d88_47 (by decide) ?_
        refine lv_iload hx hb dc_J13_stringSize_95d88_20 (lv_at hl 0 rfl) ?_
        refine lv_bipush (v := 19) hx hb dc_J13_stringSize_95d88_22 (by decide) ?_
        refine lv_icmp_ge (tgt := 50) hx hb dc_J13_stringSize_95d88_24 (by decide) (fun c_5 => absurd c_5 (by decide)) (fun _ => ?_)
        refine lv_lload_n hx hb dc_J13_stringSize_95d88_27 rfl (lv_at hl 2 rfl) ?_
        refine lv_lload_n hx hb dc_J13_stringSize_95d88_28 rfl (lv_at hl 1 rfl) ?_
        refine W.lcmp hx hb dc_J13_stringSize_95d88_29 ?_
        refine lv_if_le (tgt := 38) hx hb dc_J13_stringSize_95d88_30 (by decide) (fun c_6 => ?_) (fun c_6 => ?_)
        · skip
          refine lv_ldc2 (v := 10) hx hb hown (hts _ kw_7_72) dc_J13_stringSize_95d88_38 ?_
          refine lv_lload_n hx hb dc_J13_stringSize_95d88_41 rfl (lv_at hl 1 rfl) ?_
          refine lv_lmul hx hb dc_J13_stringSize_95d88_42 ?_
          rw [show ((((10 : Int64)) * ((-1000 : Int64))) : Int64) = (-10000 : Int64) from by decide]
          refine lv_lstore_n (lv' := [(3, .long ((-10000 : Int64))), (5, .int ((3 : Int32))), (0, .long (-(a0))), (2, .int ((0 : Int32)))]) hx hb dc_J13_stringSize_95d88_43 rfl hl (by decide) rfl (fun ls hl => ?_)
          refine lv_iinc (v := (4 : Int32)) (lv' := [(5, .int ((4 : Int32))), (3, .long ((-10000 : Int64))), (0, .long (-(a0))), (2, .int ((0 : Int32)))]) hx hb dc_J13_stringSize_95d88_44 hl (k := 1) rfl (by decide) (by decide) rfl (fun ls hl => ?_)
          refine lv_goto (tgt := 20) hx hb dc_J13_stringSize_95d88_47 (by decide) ?_
          refine lv_iload hx hb dc_J13_stringSize_95d88_20 (lv_at hl 0 rfl) ?_
          refine lv_bipush (v := 19) hx hb dc_J13_stringSize_95d88_22 (by decide) ?_
          refine lv_icmp_ge (tgt := 50) hx hb dc_J13_stringSize_95d88_24 (by decide) (fun c_7 => absurd c_7 (by decide)) (fun _ => ?_)
          refine lv_lload_n hx hb dc_J13_stringSize_95d88_27 rfl (lv_at hl 2 rfl) ?_
          refine lv_lload_n hx hb dc_J13_stringSize_95d88_28 rfl (lv_at hl 1 rfl) ?_
          refine W.lcmp hx hb dc_J13_stringSize_95d88_29 ?_
          refine lv_if_le (tgt := 38) hx hb dc_J13_stringSize_95d88_30 (by decide) (fun c_8 => ?_) (fun c_8 => ?_)
          · skip
            refine lv_ldc2 (v := 10) hx hb hown (hts _ kw_7_72) dc_J13_stringSize_95d88_38 ?_
            refine lv_lload_n hx hb dc_J13_stringSize_95d88_41 rfl (lv_at hl 1 rfl) ?_
            refine lv_lmul hx hb dc_J13_stringSize_95d88_42 ?_
            rw [show ((((10 : Int64)) * ((-10000 : Int64))) : Int64) = (-100000 : Int64) from by decide]
            refine lv_lstore_n (lv' := [(3, .long ((-100000 : Int64))), (5, .int ((4 : Int32))), (0, .long (-(a0))), (2, .int ((0 : Int32)))]) hx hb dc_J13_stringSize_95d88_43 rfl hl (by decide) rfl (fun ls hl => ?_)
            refine lv_iinc (v := (5 : Int32)) (lv' := [(5, .int ((5 : Int32))), (3, .long ((-100000 : Int64))), (0, .long (-(a0))), (2, .int ((0 : Int32)))]) hx hb dc_J13_stringSize_95d88_44 hl (k := 1) rfl (by decide) (by decide) rfl (fun ls hl => ?_)
            refine lv_goto (tgt := 20) hx hb dc_J13_stringSize_95d88_47 (by decide) ?_
            refine lv_iload hx hb dc_J13_stringSize_95d88_20 (lv_at hl 0 rfl) ?_
            refine lv_bipush (v := 19) hx hb dc_J13_stringSize_95d88_22 (by decide) ?_
            refine lv_icmp_ge (tgt := 50) hx hb dc_J13_stringSize_95d88_24 (by decide) (fun c_9 => absurd c_9 (by decide)) (fun _ => ?_)
            refine lv_lload_n hx hb dc_J13_stringSize_95d88_27 rfl (lv_at hl 2 rfl) ?_
            refine lv_lload_n hx hb dc_J13_stringSize_95d88_28 rfl (lv_at hl 1 rfl) ?_
            refine W.lcmp hx hb dc_J13_stringSize_95d88_29 ?_
            refine lv_if_le (tgt := 38) hx hb dc_J13_stringSize_95d88_30 (by decide) (fun c_10 => ?_) (fun c_10 => ?_)
            · skip
              refine lv_ldc2 (v := 10) hx hb hown (hts _ kw_7_72) dc_J13_stringSize_95d88_38 ?_
              refine lv_lload_n hx hb dc_J13_stringSize_95d88_41 rfl (lv_at hl 1 rfl) ?_
              refine lv_lmul hx hb dc_J13_stringSize_95d88_42 ?_
              rw [show ((((10 : Int64)) * ((-100000 : Int64))) : Int64) = (-1000000 : Int64) from by decide]
              refine lv_lstore_n (lv' := [(3, .long ((-1000000 : Int64))), (5, .int ((5 : Int32))), (0, .long (-(a0))), (2, .int ((0 : Int32)))]) hx hb dc_J13_stringSize_95d88_43 rfl hl (by decide) rfl (fun ls hl => ?_)
              refine lv_iinc (v := (6 : Int32)) (lv' := [(5, .int ((6 : Int32))), (3, .long ((-1000000 : Int64))), (0, .long (-(a0))), (2, .int ((0 : Int32)))]) hx hb dc_J13_stringSize_95d88_44 hl (k := 1) rfl (by decide) (by decide) rfl (fun ls hl => ?_)
              refine lv_goto (tgt := 20) hx hb dc_J13_stringSize_95d88_47 (by decide) ?_
              refine lv_iload hx hb dc_J13_stringSize_95d88_20 (lv_at hl 0 rfl) ?_
              refine lv_bipush (v := 19) hx hb dc_J13_stringSize_95d88_22 (by decide) ?_
              refine lv_icmp_ge (tgt := 50) hx hb dc_J13_stringSize_95d88_24 (by decide) (fun c_11 => absurd c_11 (by decide)) (fun _ => ?_)
              refine lv_lload_n hx hb dc_J13_stringSize_95d88_27 rfl (lv_at hl 2 rfl) ?_
              refine lv_lload_n hx hb dc_J13_stringSize_95d88_28 rfl (lv_at hl 1 rfl) ?_
              refine W.lcmp hx hb dc_J13_stringSize_95d88_29 ?_
              refine lv_if_le (tgt := 38) hx hb dc_J13_stringSize_95d88_30 (by decide) (fun c_12 => ?_) (fun c_12 => ?_)
              · skip
                refine lv_ldc2 (v := 10) hx hb hown (hts _ kw_7_72) dc_J13_stringSize_95d88_38 ?_
                refine lv_lload_n hx hb dc_J13_stringSize_95d88_41 rfl (lv_at hl 1 rfl) ?_
                refine lv_lmul hx hb dc_J13_stringSize_95d88_42 ?_
                rw [show ((((10 : Int64)) * ((-1000000 : Int64))) : Int64) = (-10000000 : Int64) from by decide]
                refine lv_lstore_n (lv' := [(3, .long ((-10000000 : Int64))), (5, .int ((6 : Int32))), (0, .long (-(a0))), (2, .int ((0 : Int32)))]) hx hb dc_J13_stringSize_95d88_43 rfl hl (by decide) rfl (fun ls hl => ?_)
                refine lv_iinc (v := (7 : Int32)) (lv' := [(5, .int ((7 : Int32))), (3, .long ((-10000000 : Int64))), (0, .long (-(a0))), (2, .int ((0 : Int32)))]) hx hb dc_J13_stringSize_95d88_44 hl (k := 1) rfl (by decide) (by decide) rfl (fun ls hl => ?_)
                refine lv_goto (tgt := 20) hx hb dc_J13_stringSize_95d88_47 (by decide) ?_
                refine lv_iload hx hb dc_J13_stringSize_95d88_20 (lv_at hl 0 rfl) ?_
                refine lv_bipush (v := 19) hx hb dc_J13_stringSize_95d88_22 (by decide) ?_
                refine lv_icmp_ge (tgt := 50) hx hb dc_J13_stringSize_95d88_24 (by decide) (fun c_13 => absurd c_13 (by decide)) (fun _ => ?_)
                refine lv_lload_n hx hb dc_J13_stringSize_95d88_27 rfl (lv_at hl 2 rfl) ?_
                refine lv_lload_n hx hb dc_J13_stringSize_95d88_28 rfl (lv_at hl 1 rfl) ?_
                refine W.lcmp hx hb dc_J13_stringSize_95d88_29 ?_
                refine lv_if_le (tgt := 38) hx hb dc_J13_stringSize_95d88_30 (by decide) (fun c_14 => ?_) (fun c_14 => ?_)
                · skip
                  refine lv_ldc2 (v := 10) hx hb hown (hts _ kw_7_72) dc_J13_stringSize_95d88_38 ?_
                  refine lv_lload_n hx hb dc_J13_stringSize_95d88_41 rfl (lv_at hl 1 rfl) ?_
                  refine lv_lmul hx hb dc_J13_stringSize_95d88_42 ?_
                  rw [show ((((10 : Int64)) * ((-10000000 : Int64))) : Int64) = (-100000000 : Int64) from by decide]
                  refine lv_lstore_n (lv' := [(3, .long ((-100000000 : Int64))), (5, .int ((7 : Int32))), (0, .long (-(a0))), (2, .int ((0 : Int32)))]) hx hb dc_J13_stringSize_95d88_43 rfl hl (by decide) rfl (fun ls hl => ?_)
                  refine lv_iinc (v := (8 : Int32)) (lv' := [(5, .int ((8 : Int32))), (3, .long ((-100000000 : Int64))), (0, .long (-(a0))), (2, .int ((0 : Int32)))]) hx hb dc_J13_stringSize_95d88_44 hl (k := 1) rfl (by decide) (by decide) rfl (fun ls hl => ?_)
                  refine lv_goto (tgt := 20) hx hb dc_J13_stringSize_95d88_47 (by decide) ?_
                  refine lv_iload hx hb dc_J13_stringSize_95d88_20 (lv_at hl 0 rfl) ?_
                  refine lv_bipush (v := 19) hx hb dc_J13_stringSize_95d88_22 (by decide) ?_
                  refine lv_icmp_ge (tgt := 50) hx hb dc_J13_stringSize_95d88_24 (by decide) (fun c_15 => absurd c_15 (by decide)) (fun _ => ?_)
                  refine lv_lload_n hx hb dc_J13_stringSize_95d88_27 rfl (lv_at hl 2 rfl) ?_
                  refine lv_lload_n hx hb dc_J13_stringSize_95d88_28 rfl (lv_at hl 1 rfl) ?_
                  refine W.lcmp hx hb dc_J13_stringSize_95d88_29 ?_
                  refine lv_if_le (tgt := 38) hx hb dc_J13_stringSize_95d88_30 (by decide) (fun c_16 => ?_) (fun c_16 => ?_)
                  · skip
                    refine lv_ldc2 (v := 10) hx hb hown (hts _ kw_7_72) dc_J13_stringSize_95d88_38 ?_
                    refine lv_lload_n hx hb dc_J13_stringSize_95d88_41 rfl (lv_at hl 1 rfl) ?_
                    refine lv_lmul hx hb dc_J13_stringSize_95d88_42 ?_
                    rw [show ((((10 : Int64)) * ((-100000000 : Int64))) : Int64) = (-1000000000 : Int64) from by decide]
                    refine lv_lstore_n (lv' := [(3, .long ((-1000000000 : Int64))), (5, .int ((8 : Int32))), (0, .long (-(a0))), (2, .int ((0 : Int32)))]) hx hb dc_J13_stringSize_95d88_43 rfl hl (by decide) rfl (fun ls hl => ?_)
                    refine lv_iinc (v := (9 : Int32)) (lv' := [(5, .int ((9 : Int32))), (3, .long ((-1000000000 : Int64))), (0, .long (-(a0))), (2, .int ((0 : Int32)))]) hx hb dc_J13_stringSize_95d88_44 hl (k := 1) rfl (by decide) (by decide) rfl (fun ls hl => ?_)
                    refine lv_goto (tgt := 20) hx hb dc_J13_stringSize_95d88_47 (by decide) ?_
                    refine lv_iload hx hb dc_J13_stringSize_95d88_20 (lv_at hl 0 rfl) ?_
                    refine lv_bipush (v := 19) hx hb dc_J13_stringSize_95d88_22 (by decide) ?_
                    refine lv_icmp_ge (tgt := 50) hx hb dc_J13_stringSize_95d88_24 (by decide) (fun c_17 => absurd c_17 (by decide)) (fun _ => ?_)
                    refine lv_lload_n hx hb dc_J13_stringSize_95d88_27 rfl (lv_at hl 2 rfl) ?_
                    refine lv_lload_n hx hb dc_J13_stringSize_95d88_28 rfl (lv_at hl 1 rfl) ?_
                    refine W.lcmp hx hb dc_J13_stringSize_95d88_29 ?_
                    refine lv_if_le (tgt := 38) hx hb dc_J13_stringSize_95d88_30 (by decide) (fun c_18 => ?_) (fun c_18 => ?_)
                    · skip
                      refine lv_ldc2 (v := 10) hx hb hown (hts _ kw_7_72) dc_J13_stringSize_95d88_38 ?_
                      refine lv_lload_n hx hb dc_J13_stringSize_95d88_41 rfl (lv_at hl 1 rfl) ?_
                      refine lv_lmul hx hb dc_J13_stringSize_95d88_42 ?_
                      rw [show ((((10 : Int64)) * ((-1000000000 : Int64))) : Int64) = (-10000000000 : Int64) from by decide]
                      refine lv_lstore_n (lv' := [(3, .long ((-10000000000 : Int64))), (5, .int ((9 : Int32))), (0, .long (-(a0))), (2, .int ((0 : Int32)))]) hx hb dc_J13_stringSize_95d88_43 rfl hl (by decide) rfl (fun ls hl => ?_)
                      refine lv_iinc (v := (10 : Int32)) (lv' := [(5, .int ((10 : Int32))), (3, .long ((-10000000000 : Int64))), (0, .long (-(a0))), (2, .int ((0 : Int32)))]) hx hb dc_J13_stringSize_95d88_44 hl (k := 1) rfl (by decide) (by decide) rfl (fun ls hl => ?_)
                      refine lv_goto (tgt := 20) hx hb dc_J13_stringSize_95d88_47 (by decide) ?_
                      refine lv_iload hx hb dc_J13_stringSize_95d88_20 (lv_at hl 0 rfl) ?_
                      refine lv_bipush (v := 19) hx hb dc_J13_stringSize_95d88_22 (by decide) ?_
                      refine lv_icmp_ge (tgt := 50) hx hb dc_J13_stringSize_95d88_24 (by decide) (fun c_19 => absurd c_19 (by decide)) (fun _ => ?_)
                      refine lv_lload_n hx hb dc_J13_stringSize_95d88_27 rfl (lv_at hl 2 rfl) ?_
                      refine lv_lload_n hx hb dc_J13_stringSize_95d88_28 rfl (lv_at hl 1 rfl) ?_
                      refine W.lcmp hx hb dc_J13_stringSize_95d88_29 ?_
                      refine lv_if_le (tgt := 38) hx hb dc_J13_stringSize_95d88_30 (by decide) (fun c_20 => ?_) (fun c_20 => ?_)
                      · skip
                        refine lv_ldc2 (v := 10) hx hb hown (hts _ kw_7_72) dc_J13_stringSize_95d88_38 ?_
                        refine lv_lload_n hx hb dc_J13_stringSize_95d88_41 rfl (lv_at hl 1 rfl) ?_
                        refine lv_lmul hx hb dc_J13_stringSize_95d88_42 ?_
                        rw [show ((((10 : Int64)) * ((-10000000000 : Int64))) : Int64) = (-100000000000 : Int64) from by decide]
                        refine lv_lstore_n (lv' := [(3, .long ((-100000000000 : Int64))), (5, .int ((10 : Int32))), (0, .long (-(a0))), (2, .int ((0 : Int32)))]) hx hb dc_J13_stringSize_95d88_43 rfl hl (by decide) rfl (fun ls hl => ?_)
                        refine lv_iinc (v := (11 : Int32)) (lv' := [(5, .int ((11 : Int32))), (3, .long ((-100000000000 : Int64))), (0, .long (-(a0))), (2, .int ((0 : Int32)))]) hx hb dc_J13_stringSize_95d88_44 hl (k := 1) rfl (by decide) (by decide) rfl (fun ls hl => ?_)
                        refine lv_goto (tgt := 20) hx hb dc_J13_stringSize_95d88_47 (by decide) ?_
                        refine lv_iload hx hb dc_J13_stringSize_95d88_20 (lv_at hl 0 rfl) ?_
                        refine lv_bipush (v := 19) hx hb dc_J13_stringSize_95d88_22 (by decide) ?_
                        refine lv_icmp_ge (tgt := 50) hx hb dc_J13_stringSize_95d88_24 (by decide) (fun c_21 => absurd c_21 (by decide)) (fun _ => ?_)
                        refine lv_lload_n hx hb dc_J13_stringSize_95d88_27 rfl (lv_at hl 2 rfl) ?_
                        refine lv_lload_n hx hb dc_J13_stringSize_95d88_28 rfl (lv_at hl 1 rfl) ?_
                        refine W.lcmp hx hb dc_J13_stringSize_95d88_29 ?_
                        refine lv_if_le (tgt := 38) hx hb dc_J13_stringSize_95d88_30 (by decide) (fun c_22 => ?_) (fun c_22 => ?_)
                        · skip
                          refine lv_ldc2 (v := 10) hx hb hown (hts _ kw_7_72) dc_J13_stringSize_95d88_38 ?_
                          refine lv_lload_n hx hb dc_J13_stringSize_95d88_41 rfl (lv_at hl 1 rfl) ?_
                          refine lv_lmul hx hb dc_J13_stringSize_95d88_42 ?_
                          rw [show ((((10 : Int64)) * ((-100000000000 : Int64))) : Int64) = (-1000000000000 : Int64) from by decide]
                          refine lv_lstore_n (lv' := [(3, .long ((-1000000000000 : Int64))), (5, .int ((11 : Int32))), (0, .long (-(a0))), (2, .int ((0 : Int32)))]) hx hb dc_J13_stringSize_95d88_43 rfl hl (by decide) rfl (fun ls hl => ?_)
                          refine lv_iinc (v := (12 : Int32)) (lv' := [(5, .int ((12 : Int32))), (3, .long ((-1000000000000 : Int64))), (0, .long (-(a0))), (2, .int ((0 : Int32)))]) hx hb dc_J13_stringSize_95d88_44 hl (k := 1) rfl (by decide) (by decide) rfl (fun ls hl => ?_)
                          refine lv_goto (tgt := 20) hx hb dc_J13_stringSize_95d88_47 (by decide) ?_
                          refine lv_iload hx hb dc_J13_stringSize_95d88_20 (lv_at hl 0 rfl) ?_
                          refine lv_bipush (v := 19) hx hb dc_J13_stringSize_95d88_22 (by decide) ?_
                          refine lv_icmp_ge (tgt := 50) hx hb dc_J13_stringSize_95d88_24 (by decide) (fun c_23 => absurd c_23 (by decide)) (fun _ => ?_)
                          refine lv_lload_n hx hb dc_J13_stringSize_95d88_27 rfl (lv_at hl 2 rfl) ?_
                          refine lv_lload_n hx hb dc_J13_stringSize_95d88_28 rfl (lv_at hl 1 rfl) ?_
                          refine W.lcmp hx hb dc_J13_stringSize_95d88_29 ?_
                          refine lv_if_le (tgt := 38) hx hb dc_J13_stringSize_95d88_30 (by decide) (fun c_24 => ?_) (fun c_24 => ?_)
                          · skip
                            refine lv_ldc2 (v := 10) hx hb hown (hts _ kw_7_72) dc_J13_stringSize_95d88_38 ?_
                            refine lv_lload_n hx hb dc_J13_stringSize_95d88_41 rfl (lv_at hl 1 rfl) ?_
                            refine lv_lmul hx hb dc_J13_stringSize_95d88_42 ?_
                            rw [show ((((10 : Int64)) * ((-1000000000000 : Int64))) : Int64) = (-10000000000000 : Int64) from by decide]
                            refine lv_lstore_n (lv' := [(3, .long ((-10000000000000 : Int64))), (5, .int ((12 : Int32))), (0, .long (-(a0))), (2, .int ((0 : Int32)))]) hx hb dc_J13_stringSize_95d88_43 rfl hl (by decide) rfl (fun ls hl => ?_)
                            refine lv_iinc (v := (13 : Int32)) (lv' := [(5, .int ((13 : Int32))), (3, .long ((-10000000000000 : Int64))), (0, .long (-(a0))), (2, .int ((0 : Int32)))]) hx hb dc_J13_stringSize_95d88_44 hl (k := 1) rfl (by decide) (by decide) rfl (fun ls hl => ?_)
                            refine lv_goto (tgt := 20) hx hb dc_J13_stringSize_95d88_47 (by decide) ?_
                            refine lv_iload hx hb dc_J13_stringSize_95d88_20 (lv_at hl 0 rfl) ?_
                            refine lv_bipush (v := 19) hx hb dc_J13_stringSize_95d88_22 (by decide) ?_
                            refine lv_icmp_ge (tgt := 50) hx hb dc_J13_stringSize_95d88_24 (by decide) (fun c_25 => absurd c_25 (by decide)) (fun _ => ?_)
                            refine lv_lload_n hx hb dc_J13_stringSize_95d88_27 rfl (lv_at hl 2 rfl) ?_
                            refine lv_lload_n hx hb dc_J13_stringSize_95d88_28 rfl (lv_at hl 1 rfl) ?_
                            refine W.lcmp hx hb dc_J13_stringSize_95d88_29 ?_
                            refine lv_if_le (tgt := 38) hx hb dc_J13_stringSize_95d88_30 (by decide) (fun c_26 => ?_) (fun c_26 => ?_)
                            · skip
                              refine lv_ldc2 (v := 10) hx hb hown (hts _ kw_7_72) dc_J13_stringSize_95d88_38 ?_
                              refine lv_lload_n hx hb dc_J13_stringSize_95d88_41 rfl (lv_at hl 1 rfl) ?_
                              refine lv_lmul hx hb dc_J13_stringSize_95d88_42 ?_
                              rw [show ((((10 : Int64)) * ((-10000000000000 : Int64))) : Int64) = (-100000000000000 : Int64) from by decide]
                              refine lv_lstore_n (lv' := [(3, .long ((-100000000000000 : Int64))), (5, .int ((13 : Int32))), (0, .long (-(a0))), (2, .int ((0 : Int32)))]) hx hb dc_J13_stringSize_95d88_43 rfl hl (by decide) rfl (fun ls hl => ?_)
                              refine lv_iinc (v := (14 : Int32)) (lv' := [(5, .int ((14 : Int32))), (3, .long ((-100000000000000 : Int64))), (0, .long (-(a0))), (2, .int ((0 : Int32)))]) hx hb dc_J13_stringSize_95d88_44 hl (k := 1) rfl (by decide) (by decide) rfl (fun ls hl => ?_)
                              refine lv_goto (tgt := 20) hx hb dc_J13_stringSize_95d88_47 (by decide) ?_
                              refine lv_iload hx hb dc_J13_stringSize_95d88_20 (lv_at hl 0 rfl) ?_
                              refine lv_bipush (v := 19) hx hb dc_J13_stringSize_95d88_22 (by decide) ?_
                              refine lv_icmp_ge (tgt := 50) hx hb dc_J13_stringSize_95d88_24 (by decide) (fun c_27 => absurd c_27 (by decide)) (fun _ => ?_)
                              refine lv_lload_n hx hb dc_J13_stringSize_95d88_27 rfl (lv_at hl 2 rfl) ?_
                              refine lv_lload_n hx hb dc_J13_stringSize_95d88_28 rfl (lv_at hl 1 rfl) ?_
                              refine W.lcmp hx hb dc_J13_stringSize_95d88_29 ?_
                              refine lv_if_le (tgt := 38) hx hb dc_J13_stringSize_95d88_30 (by decide) (fun c_28 => ?_) (fun c_28 => ?_)
                              · skip
                                refine lv_ldc2 (v := 10) hx hb hown (hts _ kw_7_72) dc_J13_stringSize_95d88_38 ?_
                                refine lv_lload_n hx hb dc_J13_stringSize_95d88_41 rfl (lv_at hl 1 rfl) ?_
                                refine lv_lmul hx hb dc_J13_stringSize_95d88_42 ?_
                                rw [show ((((10 : Int64)) * ((-100000000000000 : Int64))) : Int64) = (-1000000000000000 : Int64) from by decide]
                                refine lv_lstore_n (lv' := [(3, .long ((-1000000000000000 : Int64))), (5, .int ((14 : Int32))), (0, .long (-(a0))), (2, .int ((0 : Int32)))]) hx hb dc_J13_stringSize_95d88_43 rfl hl (by decide) rfl (fun ls hl => ?_)
                                refine lv_iinc (v := (15 : Int32)) (lv' := [(5, .int ((15 : Int32))), (3, .long ((-1000000000000000 : Int64))), (0, .long (-(a0))), (2, .int ((0 : Int32)))]) hx hb dc_J13_stringSize_95d88_44 hl (k := 1) rfl (by decide) (by decide) rfl (fun ls hl => ?_)
                                refine lv_goto (tgt := 20) hx hb dc_J13_stringSize_95d88_47 (by decide) ?_
                                refine lv_iload hx hb dc_J13_stringSize_95d88_20 (lv_at hl 0 rfl) ?_
                                refine lv_bipush (v := 19) hx hb dc_J13_stringSize_95d88_22 (by decide) ?_
                                refine lv_icmp_ge (tgt := 50) hx hb dc_J13_stringSize_95d88_24 (by decide) (fun c_29 => absurd c_29 (by decide)) (fun _ => ?_)
                                refine lv_lload_n hx hb dc_J13_stringSize_95d88_27 rfl (lv_at hl 2 rfl) ?_
                                refine lv_lload_n hx hb dc_J13_stringSize_95d88_28 rfl (lv_at hl 1 rfl) ?_
                                refine W.lcmp hx hb dc_J13_stringSize_95d88_29 ?_
                                refine lv_if_le (tgt := 38) hx hb dc_J13_stringSize_95d88_30 (by decide) (fun c_30 => ?_) (fun c_30 => ?_)
                                · skip
                                  refine lv_ldc2 (v := 10) hx hb hown (hts _ kw_7_72) dc_J13_stringSize_95d88_38 ?_
                                  refine lv_lload_n hx hb dc_J13_stringSize_95d88_41 rfl (lv_at hl 1 rfl) ?_
                                  refine lv_lmul hx hb dc_J13_stringSize_95d88_42 ?_
                                  rw [show ((((10 : Int64)) * ((-1000000000000000 : Int64))) : Int64) = (-10000000000000000 : Int64) from by decide]
                                  refine lv_lstore_n (lv' := [(3, .long ((-10000000000000000 : Int64))), (5, .int ((15 : Int32))), (0, .long (-(a0))), (2, .int ((0 : Int32)))]) hx hb dc_J13_stringSize_95d88_43 rfl hl (by decide) rfl (fun ls hl => ?_)
                                  refine lv_iinc (v := (16 : Int32)) (lv' := [(5, .int ((16 : Int32))), (3, .long ((-10000000000000000 : Int64))), (0, .long (-(a0))), (2, .int ((0 : Int32)))]) hx hb dc_J13_stringSize_95d88_44 hl (k := 1) rfl (by decide) (by decide) rfl (fun ls hl => ?_)
                                  refine lv_goto (tgt := 20) hx hb dc_J13_stringSize_95d88_47 (by decide) ?_
                                  refine lv_iload hx hb dc_J13_stringSize_95d88_20 (lv_at hl 0 rfl) ?_
                                  refine lv_bipush (v := 19) hx hb dc_J13_stringSize_95d88_22 (by decide) ?_
                                  refine lv_icmp_ge (tgt := 50) hx hb dc_J13_stringSize_95d88_24 (by decide) (fun c_31 => absurd c_31 (by decide)) (fun _ => ?_)
                                  refine lv_lload_n hx hb dc_J13_stringSize_95d88_27 rfl (lv_at hl 2 rfl) ?_
                                  refine lv_lload_n hx hb dc_J13_stringSize_95d88_28 rfl (lv_at hl 1 rfl) ?_
                                  refine W.lcmp hx hb dc_J13_stringSize_95d88_29 ?_
                                  refine lv_if_le (tgt := 38) hx hb dc_J13_stringSize_95d88_30 (by decide) (fun c_32 => ?_) (fun c_32 => ?_)
                                  · skip
                                    refine lv_ldc2 (v := 10) hx hb hown (hts _ kw_7_72) dc_J13_stringSize_95d88_38 ?_
                                    refine lv_lload_n hx hb dc_J13_stringSize_95d88_41 rfl (lv_at hl 1 rfl) ?_
                                    refine lv_lmul hx hb dc_J13_stringSize_95d88_42 ?_
                                    rw [show ((((10 : Int64)) * ((-10000000000000000 : Int64))) : Int64) = (-100000000000000000 : Int64) from by decide]
                                    refine lv_lstore_n (lv' := [(3, .long ((-100000000000000000 : Int64))), (5, .int ((16 : Int32))), (0, .long (-(a0))), (2, .int ((0 : Int32)))]) hx hb dc_J13_stringSize_95d88_43 rfl hl (by decide) rfl (fun ls hl => ?_)
                                    refine lv_iinc (v := (17 : Int32)) (lv' := [(5, .int ((17 : Int32))), (3, .long ((-100000000000000000 : Int64))), (0, .long (-(a0))), (2, .int ((0 : Int32)))]) hx hb dc_J13_stringSize_95d88_44 hl (k := 1) rfl (by decide) (by decide) rfl (fun ls hl => ?_)
                                    refine lv_goto (tgt := 20) hx hb dc_J13_stringSize_95d88_47 (by decide) ?_
                                    refine lv_iload hx hb dc_J13_stringSize_95d88_20 (lv_at hl 0 rfl) ?_
                                    refine lv_bipush (v := 19) hx hb dc_J13_stringSize_95d88_22 (by decide) ?_
                                    refine lv_icmp_ge (tgt := 50) hx hb dc_J13_stringSize_95d88_24 (by decide) (fun c_33 => absurd c_33 (by decide)) (fun _ => ?_)
                                    refine lv_lload_n hx hb dc_J13_stringSize_95d88_27 rfl (lv_at hl 2 rfl) ?_
                                    refine lv_lload_n hx hb dc_J13_stringSize_95d88_28 rfl (lv_at hl 1 rfl) ?_
                                    refine W.lcmp hx hb dc_J13_stringSize_95d88_29 ?_
                                    refine lv_if_le (tgt := 38) hx hb dc_J13_stringSize_95d88_30 (by decide) (fun c_34 => ?_) (fun c_34 => ?_)
                                    · skip
                                      refine lv_ldc2 (v := 10) hx hb hown (hts _ kw_7_72) dc_J13_stringSize_95d88_38 ?_
                                      refine lv_lload_n hx hb dc_J13_stringSize_95d88_41 rfl (lv_at hl 1 rfl) ?_
                                      refine lv_lmul hx hb dc_J13_stringSize_95d88_42 ?_
                                      rw [show ((((10 : Int64)) * ((-100000000000000000 : Int64))) : Int64) = (-1000000000000000000 : Int64) from by decide]
                                      refine lv_lstore_n (lv' := [(3, .long ((-1000000000000000000 : Int64))), (5, .int ((17 : Int32))), (0, .long (-(a0))), (2, .int ((0 : Int32)))]) hx hb dc_J13_stringSize_95d88_43 rfl hl (by decide) rfl (fun ls hl => ?_)
                                      refine lv_iinc (v := (18 : Int32)) (lv' := [(5, .int ((18 : Int32))), (3, .long ((-1000000000000000000 : Int64))), (0, .long (-(a0))), (2, .int ((0 : Int32)))]) hx hb dc_J13_stringSize_95d88_44 hl (k := 1) rfl (by decide) (by decide) rfl (fun ls hl => ?_)
                                      refine lv_goto (tgt := 20) hx hb dc_J13_stringSize_95d88_47 (by decide) ?_
                                      refine lv_iload hx hb dc_J13_stringSize_95d88_20 (lv_at hl 0 rfl) ?_
                                      refine lv_bipush (v := 19) hx hb dc_J13_stringSize_95d88_22 (by decide) ?_
                                      refine lv_icmp_ge (tgt := 50) hx hb dc_J13_stringSize_95d88_24 (by decide) (fun c_35 => absurd c_35 (by decide)) (fun _ => ?_)
                                      refine lv_lload_n hx hb dc_J13_stringSize_95d88_27 rfl (lv_at hl 2 rfl) ?_
                                      refine lv_lload_n hx hb dc_J13_stringSize_95d88_28 rfl (lv_at hl 1 rfl) ?_
                                      refine W.lcmp hx hb dc_J13_stringSize_95d88_29 ?_
                                      refine lv_if_le (tgt := 38) hx hb dc_J13_stringSize_95d88_30 (by decide) (fun c_36 => ?_) (fun c_36 => ?_)
                                      · skip
                                        refine lv_ldc2 (v := 10) hx hb hown (hts _ kw_7_72) dc_J13_stringSize_95d88_38 ?_
                                        refine lv_lload_n hx hb dc_J13_stringSize_95d88_41 rfl (lv_at hl 1 rfl) ?_
                                        refine lv_lmul hx hb dc_J13_stringSize_95d88_42 ?_
                                        rw [show ((((10 : Int64)) * ((-1000000000000000000 : Int64))) : Int64) = (8446744073709551616 : Int64) from by decide]
                                        refine lv_lstore_n (lv' := [(3, .long ((8446744073709551616 : Int64))), (5, .int ((18 : Int32))), (0, .long (-(a0))), (2, .int ((0 : Int32)))]) hx hb dc_J13_stringSize_95d88_43 rfl hl (by decide) rfl (fun ls hl => ?_)
                                        refine lv_iinc (v := (19 : Int32)) (lv' := [(5, .int ((19 : Int32))), (3, .long ((8446744073709551616 : Int64))), (0, .long (-(a0))), (2, .int ((0 : Int32)))]) hx hb dc_J13_stringSize_95d88_44 hl (k := 1) rfl (by decide) (by decide) rfl (fun ls hl => ?_)
                                        refine lv_goto (tgt := 20) hx hb dc_J13_stringSize_95d88_47 (by decide) ?_
                                        refine lv_iload hx hb dc_J13_stringSize_95d88_20 (lv_at hl 0 rfl) ?_
                                        refine lv_bipush (v := 19) hx hb dc_J13_stringSize_95d88_22 (by decide) ?_
                                        refine lv_icmp_ge (tgt := 50) hx hb dc_J13_stringSize_95d88_24 (by decide) (fun _ => ?_) (fun c_37 => absurd c_37 (by decide))
                                        refine lv_bipush (v := 19) hx hb dc_J13_stringSize_95d88_50 (by decide) ?_
                                        refine lv_iload_n hx hb dc_J13_stringSize_95d88_52 rfl (lv_at hl 3 rfl) ?_
                                        refine lv_iadd hx hb dc_J13_stringSize_95d88_53 ?_
                                        rw [show ((((19 : Int32)) + ((0 : Int32))) : Int32) = (19 : Int32) from by decide]
                                        have c_0 : ¬ a0 < 0 := fun z => c_0 ((lg_cmp_lt _ _).mpr z)
                                        have z0 := ky_posJ c_0
                                        have zx : (-(a0)).toInt = -(a0.toInt.natAbs : Int) := by omega
                                        have hd : (if a0 < 0 then 1 else 0) = 0 := if_neg c_0
                                        have e1 : ((-1000000000000000000) : Int64).toInt = -1000000000000000000 := by decide
                                        have u1 : (-(a0)).toInt ≤ ((-1000000000000000000) : Int64).toInt := Int64.le_iff_toInt_le.mp ((lg_cmp_le _ _).mp c_36)
                                        rw [e1, zx] at u1
                                        have u3 := Int64.le_toInt a0
                                        have u4 := Int64.toInt_lt a0
                                        have hk : ky_d a0.toInt.natAbs = 19 := ky_lo (lo := 1000000000000000000) (hi := 10000000000000000000) (k := 18) (by omega) (by omega) (by decide) (by decide) (by decide)
                                        have hP9 := hP.sub (ws' := []) [] rfl
                                        have hD9 := hD.sub (ws' := []) [] (by decide) rfl
                                        refine W.widen (k := 0) (n := 0) (Nat.le_of_ble_eq_true rfl) (Nat.le_of_ble_eq_true rfl) ?_
                                        exact W.iret (v := (19 : Int32)) hx hb hr (fun t ht hW => ⟨⟨_, (), rfl, ky_szJ_of rfl hk hd (by decide), by rw [ht]; exact hP9, hD9, trivial⟩, hS.F ht⟩) hS.2.2 dc_J13_stringSize_95d88_54
                                      · skip
                                        refine lv_iload hx hb dc_J13_stringSize_95d88_33 (lv_at hl 0 rfl) ?_
                                        refine lv_iload_n hx hb dc_J13_stringSize_95d88_35 rfl (lv_at hl 3 rfl) ?_
                                        refine lv_iadd hx hb dc_J13_stringSize_95d88_36 ?_
                                        rw [show ((((18 : Int32)) + ((0 : Int32))) : Int32) = (18 : Int32) from by decide]
                                        have c_0 : ¬ a0 < 0 := fun z => c_0 ((lg_cmp_lt _ _).mpr z)
                                        have z0 := ky_posJ c_0
                                        have zx : (-(a0)).toInt = -(a0.toInt.natAbs : Int) := by omega
                                        have hd : (if a0 < 0 then 1 else 0) = 0 := if_neg c_0
                                        have e1 : ((-100000000000000000) : Int64).toInt = -100000000000000000 := by decide
                                        have u1 : (-(a0)).toInt ≤ ((-100000000000000000) : Int64).toInt := Int64.le_iff_toInt_le.mp ((lg_cmp_le _ _).mp c_34)
                                        rw [e1, zx] at u1
                                        have e2 : ((-1000000000000000000) : Int64).toInt = -1000000000000000000 := by decide
                                        have u2 : ¬ (-(a0)).toInt ≤ ((-1000000000000000000) : Int64).toInt := fun z => c_36 ((lg_cmp_le _ _).mpr (Int64.le_iff_toInt_le.mpr z))
                                        rw [e2, zx] at u2
                                        have hk : ky_d a0.toInt.natAbs = 18 := ky_lo (lo := 100000000000000000) (hi := 1000000000000000000) (k := 17) (by omega) (by omega) (by decide) (by decide) (by decide)
                                        have hP9 := hP.sub (ws' := []) [] rfl
                                        have hD9 := hD.sub (ws' := []) [] (by decide) rfl
                                        refine W.widen (k := 0) (n := 0) (Nat.le_of_ble_eq_true rfl) (Nat.le_of_ble_eq_true rfl) ?_
                                        exact W.iret (v := (18 : Int32)) hx hb hr (fun t ht hW => ⟨⟨_, (), rfl, ky_szJ_of rfl hk hd (by decide), by rw [ht]; exact hP9, hD9, trivial⟩, hS.F ht⟩) hS.2.2 dc_J13_stringSize_95d88_37
                                    · skip
                                      refine lv_iload hx hb dc_J13_stringSize_95d88_33 (lv_at hl 0 rfl) ?_
                                      refine lv_iload_n hx hb dc_J13_stringSize_95d88_35 rfl (lv_at hl 3 rfl) ?_
                                      refine lv_iadd hx hb dc_J13_stringSize_95d88_36 ?_
                                      rw [show ((((17 : Int32)) + ((0 : Int32))) : Int32) = (17 : Int32) from by decide]
                                      have c_0 : ¬ a0 < 0 := fun z => c_0 ((lg_cmp_lt _ _).mpr z)
                                      have z0 := ky_posJ c_0
                                      have zx : (-(a0)).toInt = -(a0.toInt.natAbs : Int) := by omega
                                      have hd : (if a0 < 0 then 1 else 0) = 0 := if_neg c_0
                                      have e1 : ((-10000000000000000) : Int64).toInt = -10000000000000000 := by decide
                                      have u1 : (-(a0)).toInt ≤ ((-10000000000000000) : Int64).toInt := Int64.le_iff_toInt_le.mp ((lg_cmp_le _ _).mp c_32)
                                      rw [e1, zx] at u1
                                      have e2 : ((-100000000000000000) : Int64).toInt = -100000000000000000 := by decide
                                      have u2 : ¬ (-(a0)).toInt ≤ ((-100000000000000000) : Int64).toInt := fun z => c_34 ((lg_cmp_le _ _).mpr (Int64.le_iff_toInt_le.mpr z))
                                      rw [e2, zx] at u2
                                      have hk : ky_d a0.toInt.natAbs = 17 := ky_lo (lo := 10000000000000000) (hi := 100000000000000000) (k := 16) (by omega) (by omega) (by decide) (by decide) (by decide)
                                      have hP9 := hP.sub (ws' := []) [] rfl
                                      have hD9 := hD.sub (ws' := []) [] (by decide) rfl
                                      refine W.widen (k := 0) (n := 0) (Nat.le_of_ble_eq_true rfl) (Nat.le_of_ble_eq_true rfl) ?_
                                      exact W.iret (v := (17 : Int32)) hx hb hr (fun t ht hW => ⟨⟨_, (), rfl, ky_szJ_of rfl hk hd (by decide), by rw [ht]; exact hP9, hD9, trivial⟩, hS.F ht⟩) hS.2.2 dc_J13_stringSize_95d88_37
                                  · skip
                                    refine lv_iload hx hb dc_J13_stringSize_95d88_33 (lv_at hl 0 rfl) ?_
                                    refine lv_iload_n hx hb dc_J13_stringSize_95d88_35 rfl (lv_at hl 3 rfl) ?_
                                    refine lv_iadd hx hb dc_J13_stringSize_95d88_36 ?_
                                    rw [show ((((16 : Int32)) + ((0 : Int32))) : Int32) = (16 : Int32) from by decide]
                                    have c_0 : ¬ a0 < 0 := fun z => c_0 ((lg_cmp_lt _ _).mpr z)
                                    have z0 := ky_posJ c_0
                                    have zx : (-(a0)).toInt = -(a0.toInt.natAbs : Int) := by omega
                                    have hd : (if a0 < 0 then 1 else 0) = 0 := if_neg c_0
                                    have e1 : ((-1000000000000000) : Int64).toInt = -1000000000000000 := by decide
                                    have u1 : (-(a0)).toInt ≤ ((-1000000000000000) : Int64).toInt := Int64.le_iff_toInt_le.mp ((lg_cmp_le _ _).mp c_30)
                                    rw [e1, zx] at u1
                                    have e2 : ((-10000000000000000) : Int64).toInt = -10000000000000000 := by decide
                                    have u2 : ¬ (-(a0)).toInt ≤ ((-10000000000000000) : Int64).toInt := fun z => c_32 ((lg_cmp_le _ _).mpr (Int64.le_iff_toInt_le.mpr z))
                                    rw [e2, zx] at u2
                                    have hk : ky_d a0.toInt.natAbs = 16 := ky_lo (lo := 1000000000000000) (hi := 10000000000000000) (k := 15) (by omega) (by omega) (by decide) (by decide) (by decide)
                                    have hP9 := hP.sub (ws' := []) [] rfl
                                    have hD9 := hD.sub (ws' := []) [] (by decide) rfl
                                    refine W.widen (k := 0) (n := 0) (Nat.le_of_ble_eq_true rfl) (Nat.le_of_ble_eq_true rfl) ?_
                                    exact W.iret (v := (16 : Int32)) hx hb hr (fun t ht hW => ⟨⟨_, (), rfl, ky_szJ_of rfl hk hd (by decide), by rw [ht]; exact hP9, hD9, trivial⟩, hS.F ht⟩) hS.2.2 dc_J13_stringSize_95d88_37
                                · skip
                                  refine lv_iload hx hb dc_J13_stringSize_95d88_33 (lv_at hl 0 rfl) ?_
                                  refine lv_iload_n hx hb dc_J13_stringSize_95d88_35 rfl (lv_at hl 3 rfl) ?_
                                  refine lv_iadd hx hb dc_J13_stringSize_95d88_36 ?_
                                  rw [show ((((15 : Int32)) + ((0 : Int32))) : Int32) = (15 : Int32) from by decide]
                                  have c_0 : ¬ a0 < 0 := fun z => c_0 ((lg_cmp_lt _ _).mpr z)
                                  have z0 := ky_posJ c_0
                                  have zx : (-(a0)).toInt = -(a0.toInt.natAbs : Int) := by omega
                                  have hd : (if a0 < 0 then 1 else 0) = 0 := if_neg c_0
                                  have e1 : ((-100000000000000) : Int64).toInt = -100000000000000 := by decide
                                  have u1 : (-(a0)).toInt ≤ ((-100000000000000) : Int64).toInt := Int64.le_iff_toInt_le.mp ((lg_cmp_le _ _).mp c_28)
                                  rw [e1, zx] at u1
                                  have e2 : ((-1000000000000000) : Int64).toInt = -1000000000000000 := by decide
                                  have u2 : ¬ (-(a0)).toInt ≤ ((-1000000000000000) : Int64).toInt := fun z => c_30 ((lg_cmp_le _ _).mpr (Int64.le_iff_toInt_le.mpr z))
                                  rw [e2, zx] at u2
                                  have hk : ky_d a0.toInt.natAbs = 15 := ky_lo (lo := 100000000000000) (hi := 1000000000000000) (k := 14) (by omega) (by omega) (by decide) (by decide) (by decide)
                                  have hP9 := hP.sub (ws' := []) [] rfl
                                  have hD9 := hD.sub (ws' := []) [] (by decide) rfl
                                  refine W.widen (k := 0) (n := 0) (Nat.le_of_ble_eq_true rfl) (Nat.le_of_ble_eq_true rfl) ?_
                                  exact W.iret (v := (15 : Int32)) hx hb hr (fun t ht hW => ⟨⟨_, (), rfl, ky_szJ_of rfl hk hd (by decide), by rw [ht]; exact hP9, hD9, trivial⟩, hS.F ht⟩) hS.2.2 dc_J13_stringSize_95d88_37
                              · skip
                                refine lv_iload hx hb dc_J13_stringSize_95d88_33 (lv_at hl 0 rfl) ?_
                                refine lv_iload_n hx hb dc_J13_stringSize_95d88_35 rfl (lv_at hl 3 rfl) ?_
                                refine lv_iadd hx hb dc_J13_stringSize_95d88_36 ?_
                                rw [show ((((14 : Int32)) + ((0 : Int32))) : Int32) = (14 : Int32) from by decide]
                                have c_0 : ¬ a0 < 0 := fun z => c_0 ((lg_cmp_lt _ _).mpr z)
                                have z0 := ky_posJ c_0
                                have zx : (-(a0)).toInt = -(a0.toInt.natAbs : Int) := by omega
                                have hd : (if a0 < 0 then 1 else 0) = 0 := if_neg c_0
                                have e1 : ((-10000000000000) : Int64).toInt = -10000000000000 := by decide
                                have u1 : (-(a0)).toInt ≤ ((-10000000000000) : Int64).toInt := Int64.le_iff_toInt_le.mp ((lg_cmp_le _ _).mp c_26)
                                rw [e1, zx] at u1
                                have e2 : ((-100000000000000) : Int64).toInt = -100000000000000 := by decide
                                have u2 : ¬ (-(a0)).toInt ≤ ((-100000000000000) : Int64).toInt := fun z => c_28 ((lg_cmp_le _ _).mpr (Int64.le_iff_toInt_le.mpr z))
                                rw [e2, zx] at u2
                                have hk : ky_d a0.toInt.natAbs = 14 := ky_lo (lo := 10000000000000) (hi := 100000000000000) (k := 13) (by omega) (by omega) (by decide) (by decide) (by decide)
                                have hP9 := hP.sub (ws' := []) [] rfl
                                have hD9 := hD.sub (ws' := []) [] (by decide) rfl
                                refine W.widen (k := 0) (n := 0) (Nat.le_of_ble_eq_true rfl) (Nat.le_of_ble_eq_true rfl) ?_
                                exact W.iret (v := (14 : Int32)) hx hb hr (fun t ht hW => ⟨⟨_, (), rfl, ky_szJ_of rfl hk hd (by decide), by rw [ht]; exact hP9, hD9, trivial⟩, hS.F ht⟩) hS.2.2 dc_J13_stringSize_95d88_37
                            · skip
                              refine lv_iload hx hb dc_J13_stringSize_95d88_33 (lv_at hl 0 rfl) ?_
                              refine lv_iload_n hx hb dc_J13_stringSize_95d88_35 rfl (lv_at hl 3 rfl) ?_
                              refine lv_iadd hx hb dc_J13_stringSize_95d88_36 ?_
                              rw [show ((((13 : Int32)) + ((0 : Int32))) : Int32) = (13 : Int32) from by decide]
                              have c_0 : ¬ a0 < 0 := fun z => c_0 ((lg_cmp_lt _ _).mpr z)
                              have z0 := ky_posJ c_0
                              have zx : (-(a0)).toInt = -(a0.toInt.natAbs : Int) := by omega
                              have hd : (if a0 < 0 then 1 else 0) = 0 := if_neg c_0
                              have e1 : ((-1000000000000) : Int64).toInt = -1000000000000 := by decide
                              have u1 : (-(a0)).toInt ≤ ((-1000000000000) : Int64).toInt := Int64.le_iff_toInt_le.mp ((lg_cmp_le _ _).mp c_24)
                              rw [e1, zx] at u1
                              have e2 : ((-10000000000000) : Int64).toInt = -10000000000000 := by decide
                              have u2 : ¬ (-(a0)).toInt ≤ ((-10000000000000) : Int64).toInt := fun z => c_26 ((lg_cmp_le _ _).mpr (Int64.le_iff_toInt_le.mpr z))
                              rw [e2, zx] at u2
                              have hk : ky_d a0.toInt.natAbs = 13 := ky_lo (lo := 1000000000000) (hi := 10000000000000) (k := 12) (by omega) (by omega) (by decide) (by decide) (by decide)
                              have hP9 := hP.sub (ws' := []) [] rfl
                              have hD9 := hD.sub (ws' := []) [] (by decide) rfl
                              refine W.widen (k := 0) (n := 0) (Nat.le_of_ble_eq_true rfl) (Nat.le_of_ble_eq_true rfl) ?_
                              exact W.iret (v := (13 : Int32)) hx hb hr (fun t ht hW => ⟨⟨_, (), rfl, ky_szJ_of rfl hk hd (by decide), by rw [ht]; exact hP9, hD9, trivial⟩, hS.F ht⟩) hS.2.2 dc_J13_stringSize_95d88_37
                          · skip
                            refine lv_iload hx hb dc_J13_stringSize_95d88_33 (lv_at hl 0 rfl) ?_
                            refine lv_iload_n hx hb dc_J13_stringSize_95d88_35 rfl (lv_at hl 3 rfl) ?_
                            refine lv_iadd hx hb dc_J13_stringSize_95d88_36 ?_
                            rw [show ((((12 : Int32)) + ((0 : Int32))) : Int32) = (12 : Int32) from by decide]
                            have c_0 : ¬ a0 < 0 := fun z => c_0 ((lg_cmp_lt _ _).mpr z)
                            have z0 := ky_posJ c_0
                            have zx : (-(a0)).toInt = -(a0.toInt.natAbs : Int) := by omega
                            have hd : (if a0 < 0 then 1 else 0) = 0 := if_neg c_0
                            have e1 : ((-100000000000) : Int64).toInt = -100000000000 := by decide
                            have u1 : (-(a0)).toInt ≤ ((-100000000000) : Int64).toInt := Int64.le_iff_toInt_le.mp ((lg_cmp_le _ _).mp c_22)
                            rw [e1, zx] at u1
                            have e2 : ((-1000000000000) : Int64).toInt = -1000000000000 := by decide
                            have u2 : ¬ (-(a0)).toInt ≤ ((-1000000000000) : Int64).toInt := fun z => c_24 ((lg_cmp_le _ _).mpr (Int64.le_iff_toInt_le.mpr z))
                            rw [e2, zx] at u2
                            have hk : ky_d a0.toInt.natAbs = 12 := ky_lo (lo := 100000000000) (hi := 1000000000000) (k := 11) (by omega) (by omega) (by decide) (by decide) (by decide)
                            have hP9 := hP.sub (ws' := []) [] rfl
                            have hD9 := hD.sub (ws' := []) [] (by decide) rfl
                            refine W.widen (k := 0) (n := 0) (Nat.le_of_ble_eq_true rfl) (Nat.le_of_ble_eq_true rfl) ?_
                            exact W.iret (v := (12 : Int32)) hx hb hr (fun t ht hW => ⟨⟨_, (), rfl, ky_szJ_of rfl hk hd (by decide), by rw [ht]; exact hP9, hD9, trivial⟩, hS.F ht⟩) hS.2.2 dc_J13_stringSize_95d88_37
                        · skip
                          refine lv_iload hx hb dc_J13_stringSize_95d88_33 (lv_at hl 0 rfl) ?_
                          refine lv_iload_n hx hb dc_J13_stringSize_95d88_35 rfl (lv_at hl 3 rfl) ?_
                          refine lv_iadd hx hb dc_J13_stringSize_95d88_36 ?_
                          rw [show ((((11 : Int32)) + ((0 : Int32))) : Int32) = (11 : Int32) from by decide]
                          have c_0 : ¬ a0 < 0 := fun z => c_0 ((lg_cmp_lt _ _).mpr z)
                          have z0 := ky_posJ c_0
                          have zx : (-(a0)).toInt = -(a0.toInt.natAbs : Int) := by omega
                          have hd : (if a0 < 0 then 1 else 0) = 0 := if_neg c_0
                          have e1 : ((-10000000000) : Int64).toInt = -10000000000 := by decide
                          have u1 : (-(a0)).toInt ≤ ((-10000000000) : Int64).toInt := Int64.le_iff_toInt_le.mp ((lg_cmp_le _ _).mp c_20)
                          rw [e1, zx] at u1
                          have e2 : ((-100000000000) : Int64).toInt = -100000000000 := by decide
                          have u2 : ¬ (-(a0)).toInt ≤ ((-100000000000) : Int64).toInt := fun z => c_22 ((lg_cmp_le _ _).mpr (Int64.le_iff_toInt_le.mpr z))
                          rw [e2, zx] at u2
                          have hk : ky_d a0.toInt.natAbs = 11 := ky_lo (lo := 10000000000) (hi := 100000000000) (k := 10) (by omega) (by omega) (by decide) (by decide) (by decide)
                          have hP9 := hP.sub (ws' := []) [] rfl
                          have hD9 := hD.sub (ws' := []) [] (by decide) rfl
                          refine W.widen (k := 0) (n := 0) (Nat.le_of_ble_eq_true rfl) (Nat.le_of_ble_eq_true rfl) ?_
                          exact W.iret (v := (11 : Int32)) hx hb hr (fun t ht hW => ⟨⟨_, (), rfl, ky_szJ_of rfl hk hd (by decide), by rw [ht]; exact hP9, hD9, trivial⟩, hS.F ht⟩) hS.2.2 dc_J13_stringSize_95d88_37
                      · skip
                        refine lv_iload hx hb dc_J13_stringSize_95d88_33 (lv_at hl 0 rfl) ?_
                        refine lv_iload_n hx hb dc_J13_stringSize_95d88_35 rfl (lv_at hl 3 rfl) ?_
                        refine lv_iadd hx hb dc_J13_stringSize_95d88_36 ?_
                        rw [show ((((10 : Int32)) + ((0 : Int32))) : Int32) = (10 : Int32) from by decide]
                        have c_0 : ¬ a0 < 0 := fun z => c_0 ((lg_cmp_lt _ _).mpr z)
                        have z0 := ky_posJ c_0
                        have zx : (-(a0)).toInt = -(a0.toInt.natAbs : Int) := by omega
                        have hd : (if a0 < 0 then 1 else 0) = 0 := if_neg c_0
                        have e1 : ((-1000000000) : Int64).toInt = -1000000000 := by decide
                        have u1 : (-(a0)).toInt ≤ ((-1000000000) : Int64).toInt := Int64.le_iff_toInt_le.mp ((lg_cmp_le _ _).mp c_18)
                        rw [e1, zx] at u1
                        have e2 : ((-10000000000) : Int64).toInt = -10000000000 := by decide
                        have u2 : ¬ (-(a0)).toInt ≤ ((-10000000000) : Int64).toInt := fun z => c_20 ((lg_cmp_le _ _).mpr (Int64.le_iff_toInt_le.mpr z))
                        rw [e2, zx] at u2
                        have hk : ky_d a0.toInt.natAbs = 10 := ky_lo (lo := 1000000000) (hi := 10000000000) (k := 9) (by omega) (by omega) (by decide) (by decide) (by decide)
                        have hP9 := hP.sub (ws' := []) [] rfl
                        have hD9 := hD.sub (ws' := []) [] (by decide) rfl
                        refine W.widen (k := 0) (n := 0) (Nat.le_of_ble_eq_true rfl) (Nat.le_of_ble_eq_true rfl) ?_
                        exact W.iret (v := (10 : Int32)) hx hb hr (fun t ht hW => ⟨⟨_, (), rfl, ky_szJ_of rfl hk hd (by decide), by rw [ht]; exact hP9, hD9, trivial⟩, hS.F ht⟩) hS.2.2 dc_J13_stringSize_95d88_37
                    · skip
                      refine lv_iload hx hb dc_J13_stringSize_95d88_33 (lv_at hl 0 rfl) ?_
                      refine lv_iload_n hx hb dc_J13_stringSize_95d88_35 rfl (lv_at hl 3 rfl) ?_
                      refine lv_iadd hx hb dc_J13_stringSize_95d88_36 ?_
                      rw [show ((((9 : Int32)) + ((0 : Int32))) : Int32) = (9 : Int32) from by decide]
                      have c_0 : ¬ a0 < 0 := fun z => c_0 ((lg_cmp_lt _ _).mpr z)
                      have z0 := ky_posJ c_0
                      have zx : (-(a0)).toInt = -(a0.toInt.natAbs : Int) := by omega
                      have hd : (if a0 < 0 then 1 else 0) = 0 := if_neg c_0
                      have e1 : ((-100000000) : Int64).toInt = -100000000 := by decide
                      have u1 : (-(a0)).toInt ≤ ((-100000000) : Int64).toInt := Int64.le_iff_toInt_le.mp ((lg_cmp_le _ _).mp c_16)
                      rw [e1, zx] at u1
                      have e2 : ((-1000000000) : Int64).toInt = -1000000000 := by decide
                      have u2 : ¬ (-(a0)).toInt ≤ ((-1000000000) : Int64).toInt := fun z => c_18 ((lg_cmp_le _ _).mpr (Int64.le_iff_toInt_le.mpr z))
                      rw [e2, zx] at u2
                      have hk : ky_d a0.toInt.natAbs = 9 := ky_lo (lo := 100000000) (hi := 1000000000) (k := 8) (by omega) (by omega) (by decide) (by decide) (by decide)
                      have hP9 := hP.sub (ws' := []) [] rfl
                      have hD9 := hD.sub (ws' := []) [] (by decide) rfl
                      refine W.widen (k := 0) (n := 0) (Nat.le_of_ble_eq_true rfl) (Nat.le_of_ble_eq_true rfl) ?_
                      exact W.iret (v := (9 : Int32)) hx hb hr (fun t ht hW => ⟨⟨_, (), rfl, ky_szJ_of rfl hk hd (by decide), by rw [ht]; exact hP9, hD9, trivial⟩, hS.F ht⟩) hS.2.2 dc_J13_stringSize_95d88_37
                  · skip
                    refine lv_iload hx hb dc_J13_stringSize_95d88_33 (lv_at hl 0 rfl) ?_
                    refine lv_iload_n hx hb dc_J13_stringSize_95d88_35 rfl (lv_at hl 3 rfl) ?_
                    refine lv_iadd hx hb dc_J13_stringSize_95d88_36 ?_
                    rw [show ((((8 : Int32)) + ((0 : Int32))) : Int32) = (8 : Int32) from by decide]
                    have c_0 : ¬ a0 < 0 := fun z => c_0 ((lg_cmp_lt _ _).mpr z)
                    have z0 := ky_posJ c_0
                    have zx : (-(a0)).toInt = -(a0.toInt.natAbs : Int) := by omega
                    have hd : (if a0 < 0 then 1 else 0) = 0 := if_neg c_0
                    have e1 : ((-10000000) : Int64).toInt = -10000000 := by decide
                    have u1 : (-(a0)).toInt ≤ ((-10000000) : Int64).toInt := Int64.le_iff_toInt_le.mp ((lg_cmp_le _ _).mp c_14)
                    rw [e1, zx] at u1
                    have e2 : ((-100000000) : Int64).toInt = -100000000 := by decide
                    have u2 : ¬ (-(a0)).toInt ≤ ((-100000000) : Int64).toInt := fun z => c_16 ((lg_cmp_le _ _).mpr (Int64.le_iff_toInt_le.mpr z))
                    rw [e2, zx] at u2
                    have hk : ky_d a0.toInt.natAbs = 8 := ky_lo (lo := 10000000) (hi := 100000000) (k := 7) (by omega) (by omega) (by decide) (by decide) (by decide)
                    have hP9 := hP.sub (ws' := []) [] rfl
                    have hD9 := hD.sub (ws' := []) [] (by decide) rfl
                    refine W.widen (k := 0) (n := 0) (Nat.le_of_ble_eq_true rfl) (Nat.le_of_ble_eq_true rfl) ?_
                    exact W.iret (v := (8 : Int32)) hx hb hr (fun t ht hW => ⟨⟨_, (), rfl, ky_szJ_of rfl hk hd (by decide), by rw [ht]; exact hP9, hD9, trivial⟩, hS.F ht⟩) hS.2.2 dc_J13_stringSize_95d88_37
                · skip
                  refine lv_iload hx hb dc_J13_stringSize_95d88_33 (lv_at hl 0 rfl) ?_
                  refine lv_iload_n hx hb dc_J13_stringSize_95d88_35 rfl (lv_at hl 3 rfl) ?_
                  refine lv_iadd hx hb dc_J13_stringSize_95d88_36 ?_
                  rw [show ((((7 : Int32)) + ((0 : Int32))) : Int32) = (7 : Int32) from by decide]
                  have c_0 : ¬ a0 < 0 := fun z => c_0 ((lg_cmp_lt _ _).mpr z)
                  have z0 := ky_posJ c_0
                  have zx : (-(a0)).toInt = -(a0.toInt.natAbs : Int) := by omega
                  have hd : (if a0 < 0 then 1 else 0) = 0 := if_neg c_0
                  have e1 : ((-1000000) : Int64).toInt = -1000000 := by decide
                  have u1 : (-(a0)).toInt ≤ ((-1000000) : Int64).toInt := Int64.le_iff_toInt_le.mp ((lg_cmp_le _ _).mp c_12)
                  rw [e1, zx] at u1
                  have e2 : ((-10000000) : Int64).toInt = -10000000 := by decide
                  have u2 : ¬ (-(a0)).toInt ≤ ((-10000000) : Int64).toInt := fun z => c_14 ((lg_cmp_le _ _).mpr (Int64.le_iff_toInt_le.mpr z))
                  rw [e2, zx] at u2
                  have hk : ky_d a0.toInt.natAbs = 7 := ky_lo (lo := 1000000) (hi := 10000000) (k := 6) (by omega) (by omega) (by decide) (by decide) (by decide)
                  have hP9 := hP.sub (ws' := []) [] rfl
                  have hD9 := hD.sub (ws' := []) [] (by decide) rfl
                  refine W.widen (k := 0) (n := 0) (Nat.le_of_ble_eq_true rfl) (Nat.le_of_ble_eq_true rfl) ?_
                  exact W.iret (v := (7 : Int32)) hx hb hr (fun t ht hW => ⟨⟨_, (), rfl, ky_szJ_of rfl hk hd (by decide), by rw [ht]; exact hP9, hD9, trivial⟩, hS.F ht⟩) hS.2.2 dc_J13_stringSize_95d88_37
              · skip
                refine lv_iload hx hb dc_J13_stringSize_95d88_33 (lv_at hl 0 rfl) ?_
                refine lv_iload_n hx hb dc_J13_stringSize_95d88_35 rfl (lv_at hl 3 rfl) ?_
                refine lv_iadd hx hb dc_J13_stringSize_95d88_36 ?_
                rw [show ((((6 : Int32)) + ((0 : Int32))) : Int32) = (6 : Int32) from by decide]
                have c_0 : ¬ a0 < 0 := fun z => c_0 ((lg_cmp_lt _ _).mpr z)
                have z0 := ky_posJ c_0
                have zx : (-(a0)).toInt = -(a0.toInt.natAbs : Int) := by omega
                have hd : (if a0 < 0 then 1 else 0) = 0 := if_neg c_0
                have e1 : ((-100000) : Int64).toInt = -100000 := by decide
                have u1 : (-(a0)).toInt ≤ ((-100000) : Int64).toInt := Int64.le_iff_toInt_le.mp ((lg_cmp_le _ _).mp c_10)
                rw [e1, zx] at u1
                have e2 : ((-1000000) : Int64).toInt = -1000000 := by decide
                have u2 : ¬ (-(a0)).toInt ≤ ((-1000000) : Int64).toInt := fun z => c_12 ((lg_cmp_le _ _).mpr (Int64.le_iff_toInt_le.mpr z))
                rw [e2, zx] at u2
                have hk : ky_d a0.toInt.natAbs = 6 := ky_lo (lo := 100000) (hi := 1000000) (k := 5) (by omega) (by omega) (by decide) (by decide) (by decide)
                have hP9 := hP.sub (ws' := []) [] rfl
                have hD9 := hD.sub (ws' := []) [] (by decide) rfl
                refine W.widen (k := 0) (n := 0) (Nat.le_of_ble_eq_true rfl) (Nat.le_of_ble_eq_true rfl) ?_
                exact W.iret (v := (6 : Int32)) hx hb hr (fun t ht hW => ⟨⟨_, (), rfl, ky_szJ_of rfl hk hd (by decide), by rw [ht]; exact hP9, hD9, trivial⟩, hS.F ht⟩) hS.2.2 dc_J13_stringSize_95d88_37
            · skip
              refine lv_iload hx hb dc_J13_stringSize_95d88_33 (lv_at hl 0 rfl) ?_
              refine lv_iload_n hx hb dc_J13_stringSize_95d88_35 rfl (lv_at hl 3 rfl) ?_
              refine lv_iadd hx hb dc_J13_stringSize_95d88_36 ?_
              rw [show ((((5 : Int32)) + ((0 : Int32))) : Int32) = (5 : Int32) from by decide]
              have c_0 : ¬ a0 < 0 := fun z => c_0 ((lg_cmp_lt _ _).mpr z)
              have z0 := ky_posJ c_0
              have zx : (-(a0)).toInt = -(a0.toInt.natAbs : Int) := by omega
              have hd : (if a0 < 0 then 1 else 0) = 0 := if_neg c_0
              have e1 : ((-10000) : Int64).toInt = -10000 := by decide
              have u1 : (-(a0)).toInt ≤ ((-10000) : Int64).toInt := Int64.le_iff_toInt_le.mp ((lg_cmp_le _ _).mp c_8)
              rw [e1, zx] at u1
              have e2 : ((-100000) : Int64).toInt = -100000 := by decide
              have u2 : ¬ (-(a0)).toInt ≤ ((-100000) : Int64).toInt := fun z => c_10 ((lg_cmp_le _ _).mpr (Int64.le_iff_toInt_le.mpr z))
              rw [e2, zx] at u2
              have hk : ky_d a0.toInt.natAbs = 5 := ky_lo (lo := 10000) (hi := 100000) (k := 4) (by omega) (by omega) (by decide) (by decide) (by decide)
              have hP9 := hP.sub (ws' := []) [] rfl
              have hD9 := hD.sub (ws' := []) [] (by decide) rfl
              refine W.widen (k := 0) (n := 0) (Nat.le_of_ble_eq_true rfl) (Nat.le_of_ble_eq_true rfl) ?_
              exact W.iret (v := (5 : Int32)) hx hb hr (fun t ht hW => ⟨⟨_, (), rfl, ky_szJ_of rfl hk hd (by decide), by rw [ht]; exact hP9, hD9, trivial⟩, hS.F ht⟩) hS.2.2 dc_J13_stringSize_95d88_37
          · skip
            refine lv_iload hx hb dc_J13_stringSize_95d88_33 (lv_at hl 0 rfl) ?_
            refine lv_iload_n hx hb dc_J13_stringSize_95d88_35 rfl (lv_at hl 3 rfl) ?_
            refine lv_iadd hx hb dc_J13_stringSize_95d88_36 ?_
            rw [show ((((4 : Int32)) + ((0 : Int32))) : Int32) = (4 : Int32) from by decide]
            have c_0 : ¬ a0 < 0 := fun z => c_0 ((lg_cmp_lt _ _).mpr z)
            have z0 := ky_posJ c_0
            have zx : (-(a0)).toInt = -(a0.toInt.natAbs : Int) := by omega
            have hd : (if a0 < 0 then 1 else 0) = 0 := if_neg c_0
            have e1 : ((-1000) : Int64).toInt = -1000 := by decide
            have u1 : (-(a0)).toInt ≤ ((-1000) : Int64).toInt := Int64.le_iff_toInt_le.mp ((lg_cmp_le _ _).mp c_6)
            rw [e1, zx] at u1
            have e2 : ((-10000) : Int64).toInt = -10000 := by decide
            have u2 : ¬ (-(a0)).toInt ≤ ((-10000) : Int64).toInt := fun z => c_8 ((lg_cmp_le _ _).mpr (Int64.le_iff_toInt_le.mpr z))
            rw [e2, zx] at u2
            have hk : ky_d a0.toInt.natAbs = 4 := ky_lo (lo := 1000) (hi := 10000) (k := 3) (by omega) (by omega) (by decide) (by decide) (by decide)
            have hP9 := hP.sub (ws' := []) [] rfl
            have hD9 := hD.sub (ws' := []) [] (by decide) rfl
            refine W.widen (k := 0) (n := 0) (Nat.le_of_ble_eq_true rfl) (Nat.le_of_ble_eq_true rfl) ?_
            exact W.iret (v := (4 : Int32)) hx hb hr (fun t ht hW => ⟨⟨_, (), rfl, ky_szJ_of rfl hk hd (by decide), by rw [ht]; exact hP9, hD9, trivial⟩, hS.F ht⟩) hS.2.2 dc_J13_stringSize_95d88_37
        · skip
          refine lv_iload hx hb dc_J13_stringSize_95d88_33 (lv_at hl 0 rfl) ?_
          refine lv_iload_n hx hb dc_J13_stringSize_95d88_35 rfl (lv_at hl 3 rfl) ?_
          refine lv_iadd hx hb dc_J13_stringSize_95d88_36 ?_
          rw [show ((((3 : Int32)) + ((0 : Int32))) : Int32) = (3 : Int32) from by decide]
          have c_0 : ¬ a0 < 0 := fun z => c_0 ((lg_cmp_lt _ _).mpr z)
          have z0 := ky_posJ c_0
          have zx : (-(a0)).toInt = -(a0.toInt.natAbs : Int) := by omega
          have hd : (if a0 < 0 then 1 else 0) = 0 := if_neg c_0
          have e1 : ((-100) : Int64).toInt = -100 := by decide
          have u1 : (-(a0)).toInt ≤ ((-100) : Int64).toInt := Int64.le_iff_toInt_le.mp ((lg_cmp_le _ _).mp c_4)
          rw [e1, zx] at u1
          have e2 : ((-1000) : Int64).toInt = -1000 := by decide
          have u2 : ¬ (-(a0)).toInt ≤ ((-1000) : Int64).toInt := fun z => c_6 ((lg_cmp_le _ _).mpr (Int64.le_iff_toInt_le.mpr z))
          rw [e2, zx] at u2
          have hk : ky_d a0.toInt.natAbs = 3 := ky_lo (lo := 100) (hi := 1000) (k := 2) (by omega) (by omega) (by decide) (by decide) (by decide)
          have hP9 := hP.sub (ws' := []) [] rfl
          have hD9 := hD.sub (ws' := []) [] (by decide) rfl
          refine W.widen (k := 0) (n := 0) (Nat.le_of_ble_eq_true rfl) (Nat.le_of_ble_eq_true rfl) ?_
          exact W.iret (v := (3 : Int32)) hx hb hr (fun t ht hW => ⟨⟨_, (), rfl, ky_szJ_of rfl hk hd (by decide), by rw [ht]; exact hP9, hD9, trivial⟩, hS.F ht⟩) hS.2.2 dc_J13_stringSize_95d88_37
      · skip
        refine lv_iload hx hb dc_J13_stringSize_95d88_33 (lv_at hl 0 rfl) ?_
        refine lv_iload_n hx hb dc_J13_stringSize_95d88_35 rfl (lv_at hl 3 rfl) ?_
        refine lv_iadd hx hb dc_J13_stringSize_95d88_36 ?_
        rw [show ((((2 : Int32)) + ((0 : Int32))) : Int32) = (2 : Int32) from by decide]
        have c_0 : ¬ a0 < 0 := fun z => c_0 ((lg_cmp_lt _ _).mpr z)
        have z0 := ky_posJ c_0
        have zx : (-(a0)).toInt = -(a0.toInt.natAbs : Int) := by omega
        have hd : (if a0 < 0 then 1 else 0) = 0 := if_neg c_0
        have e1 : ((-10) : Int64).toInt = -10 := by decide
        have u1 : (-(a0)).toInt ≤ ((-10) : Int64).toInt := Int64.le_iff_toInt_le.mp ((lg_cmp_le _ _).mp c_2)
        rw [e1, zx] at u1
        have e2 : ((-100) : Int64).toInt = -100 := by decide
        have u2 : ¬ (-(a0)).toInt ≤ ((-100) : Int64).toInt := fun z => c_4 ((lg_cmp_le _ _).mpr (Int64.le_iff_toInt_le.mpr z))
        rw [e2, zx] at u2
        have hk : ky_d a0.toInt.natAbs = 2 := ky_lo (lo := 10) (hi := 100) (k := 1) (by omega) (by omega) (by decide) (by decide) (by decide)
        have hP9 := hP.sub (ws' := []) [] rfl
        have hD9 := hD.sub (ws' := []) [] (by decide) rfl
        refine W.widen (k := 0) (n := 0) (Nat.le_of_ble_eq_true rfl) (Nat.le_of_ble_eq_true rfl) ?_
        exact W.iret (v := (2 : Int32)) hx hb hr (fun t ht hW => ⟨⟨_, (), rfl, ky_szJ_of rfl hk hd (by decide), by rw [ht]; exact hP9, hD9, trivial⟩, hS.F ht⟩) hS.2.2 dc_J13_stringSize_95d88_37
    · skip
      refine lv_iload hx hb dc_J13_stringSize_95d88_33 (lv_at hl 0 rfl) ?_
      refine lv_iload_n hx hb dc_J13_stringSize_95d88_35 rfl (lv_at hl 3 rfl) ?_
      refine lv_iadd hx hb dc_J13_stringSize_95d88_36 ?_
      rw [show ((((1 : Int32)) + ((0 : Int32))) : Int32) = (1 : Int32) from by decide]
      have c_0 : ¬ a0 < 0 := fun z => c_0 ((lg_cmp_lt _ _).mpr z)
      have z0 := ky_posJ c_0
      have zx : (-(a0)).toInt = -(a0.toInt.natAbs : Int) := by omega
      have hd : (if a0 < 0 then 1 else 0) = 0 := if_neg c_0
      have e2 : ((-10) : Int64).toInt = -10 := by decide
      have u2 : ¬ (-(a0)).toInt ≤ ((-10) : Int64).toInt := fun z => c_2 ((lg_cmp_le _ _).mpr (Int64.le_iff_toInt_le.mpr z))
      rw [e2, zx] at u2
      have hk : ky_d a0.toInt.natAbs = 1 := ky_d10 (by omega)
      have hP9 := hP.sub (ws' := []) [] rfl
      have hD9 := hD.sub (ws' := []) [] (by decide) rfl
      refine W.widen (k := 0) (n := 0) (Nat.le_of_ble_eq_true rfl) (Nat.le_of_ble_eq_true rfl) ?_
      exact W.iret (v := (1 : Int32)) hx hb hr (fun t ht hW => ⟨⟨_, (), rfl, ky_szJ_of rfl hk hd (by decide), by rw [ht]; exact hP9, hD9, trivial⟩, hS.F ht⟩) hS.2.2 dc_J13_stringSize_95d88_37
