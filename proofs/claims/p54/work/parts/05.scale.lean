def fn_X2_halvedOften (a0 : Int64) (a1 : Int32) : Int64 :=
  if (0 : Int32) < (lg_cmp ((a0) &&& ((jlshl ((1 : Int64)) (a1)) - ((1 : Int64)))) (jlshl ((1 : Int64)) ((a1) - ((1 : Int32))))) then ((jlushr (a0) (a1)) + ((1 : Int64))) else (if (lg_cmp ((a0) &&& ((jlshl ((1 : Int64)) (a1)) - ((1 : Int64)))) (jlshl ((1 : Int64)) ((a1) - ((1 : Int32))))) = (0 : Int32) then (if (lg_cmp ((jlushr (a0) (a1)) &&& ((1 : Int64))) ((1 : Int64))) = (0 : Int32) then ((jlushr (a0) (a1)) + ((1 : Int64))) else (jlushr (a0) (a1))) else (jlushr (a0) (a1)))
set_option linter.constructorNameAsVariable false in
set_option maxHeartbeats 4000000 in
set_option maxRecDepth 100000 in
theorem mt_X2_halvedOften (l : Launch) (a0 : Int64) (a1 : Int32) : Met l my_X2_halvedOften (.code my_X2_halvedOften prog_4_method_4_code 10 (some .long) :: ky_B) { frames := 0, cells := 0, slots := 0, locals := 0 } (ky_P0 [.long (a0), .int (a1)]) (ky_Q0 (some (.long (fn_X2_halvedOften a0 a1)))) 0 0 (fun _ => False) := by
  refine ky_start0 (by decide) (Nat.le_of_ble_eq_true rfl) (fun p e s m below meth c F ls hl => ?_)
  obtain ⟨hx, hb, hml, hown, hr, hlocks, hts⟩ := id F
  have hl : lv_has ls 10 [(0, .long (a0)), (2, .int (a1))] := hl
  have hw : fn_X2_halvedOften a0 a1 = _ := fn_X2_halvedOften.eq_1 a0 a1
  refine lv_lload_n hx hb dc_X2_halvedOften_0 rfl (lv_at hl 0 rfl) ?_
  refine lv_iload_n hx hb dc_X2_halvedOften_1 rfl (lv_at hl 1 rfl) ?_
  refine lv_lushr (v := jlushr (a0) (a1)) hx hb dc_X2_halvedOften_2 rfl ?_
  refine lv_lstore_n (lv' := [(3, .long (jlushr (a0) (a1))), (0, .long (a0)), (2, .int (a1))]) hx hb dc_X2_halvedOften_3 rfl hl (by decide) rfl (fun ls hl => ?_)
  refine lv_lload_n hx hb dc_X2_halvedOften_4 rfl (lv_at hl 1 rfl) ?_
  refine lv_lconst (v := 1) hx hb dc_X2_halvedOften_5 (by decide) ?_
  refine lv_iload_n hx hb dc_X2_halvedOften_6 rfl (lv_at hl 2 rfl) ?_
  refine lv_lshl (v := jlshl ((1 : Int64)) (a1)) hx hb dc_X2_halvedOften_7 rfl ?_
  refine lv_lconst (v := 1) hx hb dc_X2_halvedOften_8 (by decide) ?_
  refine lv_lsub hx hb dc_X2_halvedOften_9 ?_
  refine lv_land hx hb dc_X2_halvedOften_10 ?_
  refine lv_lstore (lv' := [(5, .long ((a0) &&& ((jlshl ((1 : Int64)) (a1)) - ((1 : Int64))))), (3, .long (jlushr (a0) (a1))), (0, .long (a0)), (2, .int (a1))]) hx hb dc_X2_halvedOften_11 hl (by decide) rfl (fun ls hl => ?_)
  refine lv_lconst (v := 1) hx hb dc_X2_halvedOften_13 (by decide) ?_
  refine lv_iload_n hx hb dc_X2_halvedOften_14 rfl (lv_at hl 3 rfl) ?_
  refine lv_iconst (v := 1) hx hb dc_X2_halvedOften_15 (by decide) ?_
  refine lv_isub hx hb dc_X2_halvedOften_16 ?_
  refine lv_lshl (v := jlshl ((1 : Int64)) ((a1) - ((1 : Int32)))) hx hb dc_X2_halvedOften_17 rfl ?_
  refine lv_lstore (lv' := [(7, .long (jlshl ((1 : Int64)) ((a1) - ((1 : Int32))))), (5, .long ((a0) &&& ((jlshl ((1 : Int64)) (a1)) - ((1 : Int64))))), (3, .long (jlushr (a0) (a1))), (0, .long (a0)), (2, .int (a1))]) hx hb dc_X2_halvedOften_18 hl (by decide) rfl (fun ls hl => ?_)
  refine lv_lload hx hb dc_X2_halvedOften_20 (lv_at hl 1 rfl) ?_
  refine lv_lload hx hb dc_X2_halvedOften_22 (lv_at hl 0 rfl) ?_
  refine W.lcmp hx hb dc_X2_halvedOften_24 ?_
  refine lv_if_gt (tgt := 44) hx hb dc_X2_halvedOften_25 (by decide) (fun c_0 => ?_) (fun c_0 => ?_)
  · have hw := hw.trans (if_pos c_0)
    refine lv_iconst (v := 1) hx hb dc_X2_halvedOften_44 (by decide) ?_
    refine lv_goto (tgt := 49) hx hb dc_X2_halvedOften_45 (by decide) ?_
    refine lv_istore (lv' := [(9, .int ((1 : Int32))), (7, .long (jlshl ((1 : Int64)) ((a1) - ((1 : Int32))))), (5, .long ((a0) &&& ((jlshl ((1 : Int64)) (a1)) - ((1 : Int64))))), (3, .long (jlushr (a0) (a1))), (0, .long (a0)), (2, .int (a1))]) hx hb dc_X2_halvedOften_49 hl (by decide) rfl (fun ls hl => ?_)
    refine lv_iload hx hb dc_X2_halvedOften_51 (lv_at hl 0 rfl) ?_
    refine lv_if_eq (tgt := 62) hx hb dc_X2_halvedOften_53 (by decide) (fun c_1 => absurd c_1 (by decide)) (fun _ => ?_)
    refine lv_lload_n hx hb dc_X2_halvedOften_56 rfl (lv_at hl 3 rfl) ?_
    refine lv_lconst (v := 1) hx hb dc_X2_halvedOften_57 (by decide) ?_
    refine lv_ladd hx hb dc_X2_halvedOften_58 ?_
    refine lv_goto (tgt := 63) hx hb dc_X2_halvedOften_59 (by decide) ?_
    exact W.lret hx hb hr (fun t ht hW => ⟨congrArg (fun z => Outcome.returned (some (Value.long z))) hw.symm, ht⟩) ky_nil dc_X2_halvedOften_63
  · have hw := hw.trans (if_neg c_0)
    refine lv_lload hx hb dc_X2_halvedOften_28 (lv_at hl 1 rfl) ?_
    refine lv_lload hx hb dc_X2_halvedOften_30 (lv_at hl 0 rfl) ?_
    refine W.lcmp hx hb dc_X2_halvedOften_32 ?_
    refine lv_if_ne (tgt := 48) hx hb dc_X2_halvedOften_33 (by decide) (fun c_1 => ?_) (fun c_1 => ?_)
    · have hw := hw.trans (if_neg c_1)
      refine lv_iconst (v := 0) hx hb dc_X2_halvedOften_48 (by decide) ?_
      refine lv_istore (lv' := [(9, .int ((0 : Int32))), (7, .long (jlshl ((1 : Int64)) ((a1) - ((1 : Int32))))), (5, .long ((a0) &&& ((jlshl ((1 : Int64)) (a1)) - ((1 : Int64))))), (3, .long (jlushr (a0) (a1))), (0, .long (a0)), (2, .int (a1))]) hx hb dc_X2_halvedOften_49 hl (by decide) rfl (fun ls hl => ?_)
      refine lv_iload hx hb dc_X2_halvedOften_51 (lv_at hl 0 rfl) ?_
      refine lv_if_eq (tgt := 62) hx hb dc_X2_halvedOften_53 (by decide) (fun _ => ?_) (fun c_2 => absurd c_2 (by decide))
      refine lv_lload_n hx hb dc_X2_halvedOften_62 rfl (lv_at hl 3 rfl) ?_
      exact W.lret hx hb hr (fun t ht hW => ⟨congrArg (fun z => Outcome.returned (some (Value.long z))) hw.symm, ht⟩) ky_nil dc_X2_halvedOften_63
    · have hw := hw.trans (if_pos c_1)
      refine lv_lload_n hx hb dc_X2_halvedOften_36 rfl (lv_at hl 2 rfl) ?_
      refine lv_lconst (v := 1) hx hb dc_X2_halvedOften_37 (by decide) ?_
      refine lv_land hx hb dc_X2_halvedOften_38 ?_
      refine lv_lconst (v := 1) hx hb dc_X2_halvedOften_39 (by decide) ?_
      refine W.lcmp hx hb dc_X2_halvedOften_40 ?_
      refine lv_if_ne (tgt := 48) hx hb dc_X2_halvedOften_41 (by decide) (fun c_2 => ?_) (fun c_2 => ?_)
      · have hw := hw.trans (if_neg c_2)
        refine lv_iconst (v := 0) hx hb dc_X2_halvedOften_48 (by decide) ?_
        refine lv_istore (lv' := [(9, .int ((0 : Int32))), (7, .long (jlshl ((1 : Int64)) ((a1) - ((1 : Int32))))), (5, .long ((a0) &&& ((jlshl ((1 : Int64)) (a1)) - ((1 : Int64))))), (3, .long (jlushr (a0) (a1))), (0, .long (a0)), (2, .int (a1))]) hx hb dc_X2_halvedOften_49 hl (by decide) rfl (fun ls hl => ?_)
        refine lv_iload hx hb dc_X2_halvedOften_51 (lv_at hl 0 rfl) ?_
        refine lv_if_eq (tgt := 62) hx hb dc_X2_halvedOften_53 (by decide) (fun _ => ?_) (fun c_3 => absurd c_3 (by decide))
        refine lv_lload_n hx hb dc_X2_halvedOften_62 rfl (lv_at hl 3 rfl) ?_
        exact W.lret hx hb hr (fun t ht hW => ⟨congrArg (fun z => Outcome.returned (some (Value.long z))) hw.symm, ht⟩) ky_nil dc_X2_halvedOften_63
      · have hw := hw.trans (if_pos c_2)
        refine lv_iconst (v := 1) hx hb dc_X2_halvedOften_44 (by decide) ?_
        refine lv_goto (tgt := 49) hx hb dc_X2_halvedOften_45 (by decide) ?_
        refine lv_istore (lv' := [(9, .int ((1 : Int32))), (7, .long (jlshl ((1 : Int64)) ((a1) - ((1 : Int32))))), (5, .long ((a0) &&& ((jlshl ((1 : Int64)) (a1)) - ((1 : Int64))))), (3, .long (jlushr (a0) (a1))), (0, .long (a0)), (2, .int (a1))]) hx hb dc_X2_halvedOften_49 hl (by decide) rfl (fun ls hl => ?_)
        refine lv_iload hx hb dc_X2_halvedOften_51 (lv_at hl 0 rfl) ?_
        refine lv_if_eq (tgt := 62) hx hb dc_X2_halvedOften_53 (by decide) (fun c_3 => absurd c_3 (by decide)) (fun _ => ?_)
        refine lv_lload_n hx hb dc_X2_halvedOften_56 rfl (lv_at hl 3 rfl) ?_
        refine lv_lconst (v := 1) hx hb dc_X2_halvedOften_57 (by decide) ?_
        refine lv_ladd hx hb dc_X2_halvedOften_58 ?_
        refine lv_goto (tgt := 63) hx hb dc_X2_halvedOften_59 (by decide) ?_
        exact W.lret hx hb hr (fun t ht hW => ⟨congrArg (fun z => Outcome.returned (some (Value.long z))) hw.symm, ht⟩) ky_nil dc_X2_halvedOften_63
def fn_X2_nearestTo_L23 : Nat → Int64 → Int32 → Int32 → Int64
  | 0, _, _, _ => 0
  | n + 1, v3, v5, v6 => if (v6) ≤ (0 : Int32) then (if ((1 : Int32)) ≤ (v5) then (if (v5) < ((2047 : Int32)) then ((jlshl ((v5).toInt64) ((52 : Int32))) + ((v3) - ((4503599627370496 : Int64)))) else ((9218868437227405312 : Int64))) else (fn_X2_halvedOften (v3) (jimin ((60 : Int32)) (((1 : Int32)) - (v5))))) else (if (lg_cmp (jlushr (v3) (((53 : Int32)) - (v6))) ((0 : Int64))) = (0 : Int32) then (fn_X2_nearestTo_L23 n (jlshl (v3) (v6)) ((v5) - (v6)) ((v6) >>> (((1 : Int32)) &&& 31))) else (fn_X2_nearestTo_L23 n (v3) (v5) ((v6) >>> (((1 : Int32)) &&& 31))))
def fk_X2_nearestTo_L23 : Nat → Int64 → Int32 → Int32 → Prop
  | 0, _, _, _ => False
  | n + 1, v3, v5, v6 => (((v6) ≤ (0 : Int32)) → (((((1 : Int32)) ≤ (v5)) → ((((v5) < ((2047 : Int32))) → (True)) ∧ (¬ ((v5) < ((2047 : Int32))) → (True)))) ∧ (¬ (((1 : Int32)) ≤ (v5)) → (True)))) ∧ (¬ ((v6) ≤ (0 : Int32)) → ((((lg_cmp (jlushr (v3) (((53 : Int32)) - (v6))) ((0 : Int64))) = (0 : Int32)) → (fk_X2_nearestTo_L23 n (jlshl (v3) (v6)) ((v5) - (v6)) ((v6) >>> (((1 : Int32)) &&& 31)))) ∧ (¬ ((lg_cmp (jlushr (v3) (((53 : Int32)) - (v6))) ((0 : Int64))) = (0 : Int32)) → (fk_X2_nearestTo_L23 n (v3) (v5) ((v6) >>> (((1 : Int32)) &&& 31))))))
set_option linter.constructorNameAsVariable false in
set_option maxHeartbeats 4000000 in
set_option maxRecDepth 100000 in
theorem ml_X2_nearestTo_L23 {p : Program} {l : Launch} {e : Env} {s : State} {m : MethodId} {args : Array Value} {below : List Frame} {meth : Method} {c : Code} (F : ky_F p s m meth c my_X2_nearestTo.cls prog_4_method_3_code 7 (some .long) args) : ∀ (n : Nat) (v3 : Int64) (v5 : Int32) (v6 : Int32), fk_X2_nearestTo_L23 n v3 v5 v6 → ∀ ls : Array Slot, lv_has ls 7 [(3, .long (v3)), (5, .int (v5)), (6, .int (v6))] → W p l e { frames := 1, cells := 0, slots := 0, locals := 29 } s m args below meth c s.heap [] 0 0 (MQ below (ky_Q0 (some (.long (fn_X2_nearestTo_L23 n v3 v5 v6)))) args s 0 0 (fun _ => False)) (F0 m 23 ls []) := by
  obtain ⟨hx, hb, hml, hown, hr, hlocks, hts⟩ := id F
  intro n
  induction n with
  | zero => intro v3 v5 v6 hk; exact False.elim hk
  | succ n ih =>
      intro v3 v5 v6 hk ls hl
      have hw : fn_X2_nearestTo_L23 (n + 1) v3 v5 v6 = (if (v6) ≤ (0 : Int32) then (if ((1 : Int32)) ≤ (v5) then (if (v5) < ((2047 : Int32)) then ((jlshl ((v5).toInt64) ((52 : Int32))) + ((v3) - ((4503599627370496 : Int64)))) else ((9218868437227405312 : Int64))) else (fn_X2_halvedOften (v3) (jimin ((60 : Int32)) (((1 : Int32)) - (v5))))) else (if (lg_cmp (jlushr (v3) (((53 : Int32)) - (v6))) ((0 : Int64))) = (0 : Int32) then (fn_X2_nearestTo_L23 n (jlshl (v3) (v6)) ((v5) - (v6)) ((v6) >>> (((1 : Int32)) &&& 31))) else (fn_X2_nearestTo_L23 n (v3) (v5) ((v6) >>> (((1 : Int32)) &&& 31))))) := rfl
      have hk : (((v6) ≤ (0 : Int32)) → (((((1 : Int32)) ≤ (v5)) → ((((v5) < ((2047 : Int32))) → (True)) ∧ (¬ ((v5) < ((2047 : Int32))) → (True)))) ∧ (¬ (((1 : Int32)) ≤ (v5)) → (True)))) ∧ (¬ ((v6) ≤ (0 : Int32)) → ((((lg_cmp (jlushr (v3) (((53 : Int32)) - (v6))) ((0 : Int64))) = (0 : Int32)) → (fk_X2_nearestTo_L23 n (jlshl (v3) (v6)) ((v5) - (v6)) ((v6) >>> (((1 : Int32)) &&& 31)))) ∧ (¬ ((lg_cmp (jlushr (v3) (((53 : Int32)) - (v6))) ((0 : Int64))) = (0 : Int32)) → (fk_X2_nearestTo_L23 n (v3) (v5) ((v6) >>> (((1 : Int32)) &&& 31)))))) := hk
      refine lv_iload hx hb dc_X2_nearestTo_23 (lv_at hl 2 rfl) ?_
      refine lv_if_le (tgt := 61) hx hb dc_X2_nearestTo_25 (by decide) (fun c_0 => ?_) (fun c_0 => ?_)
      · have hw := hw.trans (if_pos c_0)
        have hk := hk.1 c_0
        refine lv_iload hx hb dc_X2_nearestTo_61 (lv_at hl 1 rfl) ?_
        refine lv_iconst (v := 1) hx hb dc_X2_nearestTo_63 (by decide) ?_
        refine lv_icmp_ge (tgt := 81) hx hb dc_X2_nearestTo_64 (by decide) (fun c_1 => ?_) (fun c_1 => ?_)
        · have hw := hw.trans (if_pos c_1)
          have hk := hk.1 c_1
          refine lv_iload hx hb dc_X2_nearestTo_81 (lv_at hl 1 rfl) ?_
          refine lv_sipush (v := 2047) hx hb dc_X2_nearestTo_83 (by decide) ?_
          refine lv_icmp_lt (tgt := 93) hx hb dc_X2_nearestTo_86 (by decide) (fun c_2 => ?_) (fun c_2 => ?_)
          · have hw := hw.trans (if_pos c_2)
            have hk := hk.1 c_2
            refine lv_iload hx hb dc_X2_nearestTo_93 (lv_at hl 1 rfl) ?_
            refine lv_i2l (v := (v5).toInt64) hx hb dc_X2_nearestTo_95 rfl ?_
            refine lv_bipush (v := 52) hx hb dc_X2_nearestTo_96 (by decide) ?_
            refine lv_lshl (v := jlshl ((v5).toInt64) ((52 : Int32))) hx hb dc_X2_nearestTo_98 rfl ?_
            refine lv_lload_n hx hb dc_X2_nearestTo_99 rfl (lv_at hl 0 rfl) ?_
            refine lv_ldc2 (v := 4503599627370496) hx hb hown (hts _ kw_3_119) dc_X2_nearestTo_100 ?_
            refine lv_lsub hx hb dc_X2_nearestTo_103 ?_
            refine lv_ladd hx hb dc_X2_nearestTo_104 ?_
            exact W.lret hx hb hr (fun t ht hW => ⟨congrArg (fun z => Outcome.returned (some (Value.long z))) hw.symm, ht⟩) ky_nil dc_X2_nearestTo_105
          · have hw := hw.trans (if_neg c_2)
            have hk := hk.2 c_2
            refine lv_ldc2 (v := 9218868437227405312) hx hb hown (hts _ kw_3_118) dc_X2_nearestTo_89 ?_
            exact W.lret hx hb hr (fun t ht hW => ⟨congrArg (fun z => Outcome.returned (some (Value.long z))) hw.symm, ht⟩) ky_nil dc_X2_nearestTo_92
        · have hw := hw.trans (if_neg c_1)
          have hk := hk.2 c_1
          refine lv_lload_n hx hb dc_X2_nearestTo_67 rfl (lv_at hl 0 rfl) ?_
          refine lv_bipush (v := 60) hx hb dc_X2_nearestTo_68 (by decide) ?_
          refine lv_iconst (v := 1) hx hb dc_X2_nearestTo_70 (by decide) ?_
          refine lv_iload hx hb dc_X2_nearestTo_71 (lv_at hl 1 rfl) ?_
          refine lv_isub hx hb dc_X2_nearestTo_73 ?_
          refine ky_imin F ⟨kw_3_114, kw_1_203, kw_1_16, kw_1_204⟩ hl.1 (Nat.le_of_ble_eq_true rfl) (Nat.le_of_ble_eq_true rfl) ⟨Nat.zero_le _, Nat.zero_le _⟩ dc_X2_nearestTo_74 ?_
          refine ky_cS0 (As := [.long (v3), .int (jimin ((60 : Int32)) (((1 : Int32)) - (v5)))]) F (mt_X2_halvedOften l (v3) (jimin ((60 : Int32)) (((1 : Int32)) - (v5)))) ks_X2_43 ⟨⟨rfl, rfl⟩, by decide, by decide⟩ rfl hl.1 rfl (Nat.le_of_ble_eq_true rfl) ⟨Nat.zero_le _, Nat.zero_le _⟩ dc_X2_nearestTo_77 ?_
          exact W.lret hx hb hr (fun t ht hW => ⟨congrArg (fun z => Outcome.returned (some (Value.long z))) hw.symm, ht⟩) ky_nil dc_X2_nearestTo_80
      · have hw := hw.trans (if_neg c_0)
        have hk := hk.2 c_0
        refine lv_lload_n hx hb dc_X2_nearestTo_28 rfl (lv_at hl 0 rfl) ?_
        refine lv_bipush (v := 53) hx hb dc_X2_nearestTo_29 (by decide) ?_
        refine lv_iload hx hb dc_X2_nearestTo_31 (lv_at hl 2 rfl) ?_
        refine lv_isub hx hb dc_X2_nearestTo_33 ?_
        refine lv_lushr (v := jlushr (v3) (((53 : Int32)) - (v6))) hx hb dc_X2_nearestTo_34 rfl ?_
        refine lv_lconst (v := 0) hx hb dc_X2_nearestTo_35 (by decide) ?_
        refine W.lcmp hx hb dc_X2_nearestTo_36 ?_
        refine lv_if_ne (tgt := 52) hx hb dc_X2_nearestTo_37 (by decide) (fun c_1 => ?_) (fun c_1 => ?_)
        · have hw := hw.trans (if_neg c_1)
          have hk := hk.2 c_1
          refine lv_iload hx hb dc_X2_nearestTo_52 (lv_at hl 2 rfl) ?_
          refine lv_iconst (v := 1) hx hb dc_X2_nearestTo_54 (by decide) ?_
          refine lv_ishr hx hb dc_X2_nearestTo_55 ?_
          refine lv_istore (lv' := [(6, .int ((v6) >>> (((1 : Int32)) &&& 31))), (3, .long (v3)), (5, .int (v5))]) hx hb dc_X2_nearestTo_56 hl (by decide) rfl (fun ls hl => ?_)
          refine lv_goto (tgt := 23) hx hb dc_X2_nearestTo_58 (by decide) ?_
          rw [hw]
          exact ih (v3) (v5) ((v6) >>> (((1 : Int32)) &&& 31)) hk _ (lv_sub hl [1, 2, 0] rfl)
        · have hw := hw.trans (if_pos c_1)
          have hk := hk.1 c_1
          refine lv_lload_n hx hb dc_X2_nearestTo_40 rfl (lv_at hl 0 rfl) ?_
          refine lv_iload hx hb dc_X2_nearestTo_41 (lv_at hl 2 rfl) ?_
          refine lv_lshl (v := jlshl (v3) (v6)) hx hb dc_X2_nearestTo_43 rfl ?_
          refine lv_lstore_n (lv' := [(3, .long (jlshl (v3) (v6))), (5, .int (v5)), (6, .int (v6))]) hx hb dc_X2_nearestTo_44 rfl hl (by decide) rfl (fun ls hl => ?_)
          refine lv_iload hx hb dc_X2_nearestTo_45 (lv_at hl 1 rfl) ?_
          refine lv_iload hx hb dc_X2_nearestTo_47 (lv_at hl 2 rfl) ?_
          refine lv_isub hx hb dc_X2_nearestTo_49 ?_
          refine lv_istore (lv' := [(5, .int ((v5) - (v6))), (3, .long (jlshl (v3) (v6))), (6, .int (v6))]) hx hb dc_X2_nearestTo_50 hl (by decide) rfl (fun ls hl => ?_)
          refine lv_iload hx hb dc_X2_nearestTo_52 (lv_at hl 2 rfl) ?_
          refine lv_iconst (v := 1) hx hb dc_X2_nearestTo_54 (by decide) ?_
          refine lv_ishr hx hb dc_X2_nearestTo_55 ?_
          refine lv_istore (lv' := [(6, .int ((v6) >>> (((1 : Int32)) &&& 31))), (5, .int ((v5) - (v6))), (3, .long (jlshl (v3) (v6)))]) hx hb dc_X2_nearestTo_56 hl (by decide) rfl (fun ls hl => ?_)
          refine lv_goto (tgt := 23) hx hb dc_X2_nearestTo_58 (by decide) ?_
          rw [hw]
          exact ih (jlshl (v3) (v6)) ((v5) - (v6)) ((v6) >>> (((1 : Int32)) &&& 31)) hk _ (lv_sub hl [2, 1, 0] rfl)
theorem ok_X2_nE (n : Nat) (v3 : Int64) (v5 : Int32) : fk_X2_nearestTo_L23 (n + 1) v3 v5 0 :=
  ⟨fun _ => ⟨fun _ => ⟨fun _ => trivial, fun _ => trivial⟩, fun _ => trivial⟩, fun h => absurd (by decide) h⟩
theorem ok_X2_nS {n : Nat} {s s' : Int32} (h : ¬ s ≤ 0) (hs : s >>> ((1 : Int32) &&& 31) = s') (k : ∀ v3 v5, fk_X2_nearestTo_L23 n v3 v5 s') (v3 : Int64) (v5 : Int32) : fk_X2_nearestTo_L23 (n + 1) v3 v5 s :=
  ⟨fun z => absurd z h, fun _ => ⟨fun _ => by rw [hs]; exact k _ _, fun _ => by rw [hs]; exact k _ _⟩⟩
theorem ok_X2_nearestTo : ∀ (v3 : Int64) (v5 : Int32), fk_X2_nearestTo_L23 7 v3 v5 32 :=
  ok_X2_nS (s' := 16) (by decide) (by decide) (ok_X2_nS (s' := 8) (by decide) (by decide) (ok_X2_nS (s' := 4) (by decide) (by decide) (ok_X2_nS (s' := 2) (by decide) (by decide) (ok_X2_nS (s' := 1) (by decide) (by decide) (ok_X2_nS (s' := 0) (by decide) (by decide) (ok_X2_nE 0))))))
def fn_X2_nearestTo (a0 : Int64) (a1 : Int32) : Int64 :=
  if (lg_cmp (a0) ((0 : Int64))) = (0 : Int32) then ((0 : Int64)) else (fn_X2_nearestTo_L23 (7) (a0) (((a1) - ((-1074 : Int32))) + ((1 : Int32))) ((32 : Int32)))
set_option linter.constructorNameAsVariable false in
set_option maxHeartbeats 4000000 in
set_option maxRecDepth 100000 in
theorem mt_X2_nearestTo (l : Launch) (a0 : Int64) (a1 : Int32) : Met l my_X2_nearestTo (.code my_X2_nearestTo prog_4_method_3_code 7 (some .long) :: ky_B) { frames := 1, cells := 0, slots := 0, locals := 29 } (ky_P0 [.long (a0), .int (a1)]) (ky_Q0 (some (.long (fn_X2_nearestTo a0 a1)))) 0 0 (fun _ => False) := by
  refine ky_start0 (by decide) (Nat.le_of_ble_eq_true rfl) (fun p e s m below meth c F ls hl => ?_)
  obtain ⟨hx, hb, hml, hown, hr, hlocks, hts⟩ := id F
  have hl : lv_has ls 7 [(0, .long (a0)), (2, .int (a1))] := hl
  have hw : fn_X2_nearestTo a0 a1 = _ := fn_X2_nearestTo.eq_1 a0 a1
  refine lv_lload_n hx hb dc_X2_nearestTo_0 rfl (lv_at hl 0 rfl) ?_
  refine lv_lconst (v := 0) hx hb dc_X2_nearestTo_1 (by decide) ?_
  refine W.lcmp hx hb dc_X2_nearestTo_2 ?_
  refine lv_if_ne (tgt := 8) hx hb dc_X2_nearestTo_3 (by decide) (fun c_0 => ?_) (fun c_0 => ?_)
  · have hw := hw.trans (if_neg c_0)
    refine lv_lload_n hx hb dc_X2_nearestTo_8 rfl (lv_at hl 0 rfl) ?_
    refine lv_lstore_n (lv' := [(3, .long (a0)), (0, .long (a0)), (2, .int (a1))]) hx hb dc_X2_nearestTo_9 rfl hl (by decide) rfl (fun ls hl => ?_)
    refine lv_iload_n hx hb dc_X2_nearestTo_10 rfl (lv_at hl 2 rfl) ?_
    refine lv_sipush (v := (-1074)) hx hb dc_X2_nearestTo_11 (by decide) ?_
    refine lv_isub hx hb dc_X2_nearestTo_14 ?_
    refine lv_iconst (v := 1) hx hb dc_X2_nearestTo_15 (by decide) ?_
    refine lv_iadd hx hb dc_X2_nearestTo_16 ?_
    refine lv_istore (lv' := [(5, .int (((a1) - ((-1074 : Int32))) + ((1 : Int32)))), (3, .long (a0)), (0, .long (a0)), (2, .int (a1))]) hx hb dc_X2_nearestTo_17 hl (by decide) rfl (fun ls hl => ?_)
    refine lv_bipush (v := 32) hx hb dc_X2_nearestTo_19 (by decide) ?_
    refine lv_istore (lv' := [(6, .int ((32 : Int32))), (5, .int (((a1) - ((-1074 : Int32))) + ((1 : Int32)))), (3, .long (a0)), (0, .long (a0)), (2, .int (a1))]) hx hb dc_X2_nearestTo_21 hl (by decide) rfl (fun ls hl => ?_)
    rw [hw]
    exact ml_X2_nearestTo_L23 F (7) (a0) (((a1) - ((-1074 : Int32))) + ((1 : Int32))) ((32 : Int32)) (ok_X2_nearestTo _ _) _ (lv_sub hl [2, 1, 0] rfl)
  · have hw := hw.trans (if_pos c_0)
    refine lv_lconst (v := 0) hx hb dc_X2_nearestTo_6 (by decide) ?_
    exact W.lret hx hb hr (fun t ht hW => ⟨congrArg (fun z => Outcome.returned (some (Value.long z))) hw.symm, ht⟩) ky_nil dc_X2_nearestTo_7
def fn_X2_timesPower (a0 : Int64) (a1 : Int32) : Int64 :=
  if (lg_cmp (fn_X0_sizeIn (a0)) ((0 : Int64))) = (0 : Int32) then (a0) else (if (fn_X0_isEndlessOne (a0)) = (0 : Int32) then (fn_X0_joined (fn_X2_nearestTo (fn_X0_factorIn (a0)) ((fn_X0_powerIn (a0)) + (jimax ((-2200 : Int32)) (jimin ((2200 : Int32)) (a1))))) (a0)) else (a0))
set_option linter.constructorNameAsVariable false in
set_option maxHeartbeats 4000000 in
set_option maxRecDepth 100000 in
theorem mt_X2_timesPower (l : Launch) (a0 : Int64) (a1 : Int32) : Met l my_X2_timesPower (.code my_X2_timesPower prog_4_method_2_code 4 (some .long) :: ky_B) { frames := 2, cells := 0, slots := 0, locals := 55 } (ky_P0 [.long (a0), .int (a1)]) (ky_Q0 (some (.long (fn_X2_timesPower a0 a1)))) 0 0 (fun _ => False) := by
  refine ky_start0 (by decide) (Nat.le_of_ble_eq_true rfl) (fun p e s m below meth c F ls hl => ?_)
  obtain ⟨hx, hb, hml, hown, hr, hlocks, hts⟩ := id F
  have hl : lv_has ls 4 [(0, .long (a0)), (2, .int (a1))] := hl
  have hw : fn_X2_timesPower a0 a1 = _ := fn_X2_timesPower.eq_1 a0 a1
  refine lv_lload_n hx hb dc_X2_timesPower_0 rfl (lv_at hl 0 rfl) ?_
  refine ky_cS0 (As := [.long (a0)]) F (mt_X0_sizeIn l (a0)) ks_X2_7 ⟨⟨rfl, rfl⟩, by decide, by decide⟩ rfl hl.1 rfl (Nat.le_of_ble_eq_true rfl) ⟨Nat.zero_le _, Nat.zero_le _⟩ dc_X2_timesPower_1 ?_
  refine lv_lconst (v := 0) hx hb dc_X2_timesPower_4 (by decide) ?_
  refine W.lcmp hx hb dc_X2_timesPower_5 ?_
  refine lv_if_eq (tgt := 16) hx hb dc_X2_timesPower_6 (by decide) (fun c_0 => ?_) (fun c_0 => ?_)
  · have hw := hw.trans (if_pos c_0)
    refine lv_lload_n hx hb dc_X2_timesPower_16 rfl (lv_at hl 0 rfl) ?_
    exact W.lret hx hb hr (fun t ht hW => ⟨congrArg (fun z => Outcome.returned (some (Value.long z))) hw.symm, ht⟩) ky_nil dc_X2_timesPower_17
  · have hw := hw.trans (if_neg c_0)
    refine lv_lload_n hx hb dc_X2_timesPower_9 rfl (lv_at hl 0 rfl) ?_
    refine ky_cS0 (As := [.long (a0)]) F (mt_X0_isEndlessOne l (a0)) ks_X2_13 ⟨⟨rfl, rfl⟩, by decide, by decide⟩ rfl hl.1 rfl (Nat.le_of_ble_eq_true rfl) ⟨Nat.zero_le _, Nat.zero_le _⟩ dc_X2_timesPower_10 ?_
    refine lv_if_eq (tgt := 18) hx hb dc_X2_timesPower_13 (by decide) (fun c_1 => ?_) (fun c_1 => ?_)
    · have hw := hw.trans (if_pos c_1)
      refine lv_sipush (v := (-2200)) hx hb dc_X2_timesPower_18 (by decide) ?_
      refine lv_sipush (v := 2200) hx hb dc_X2_timesPower_21 (by decide) ?_
      refine lv_iload_n hx hb dc_X2_timesPower_24 rfl (lv_at hl 1 rfl) ?_
      refine ky_imin F ⟨kw_3_114, kw_1_203, kw_1_16, kw_1_204⟩ hl.1 (Nat.le_of_ble_eq_true rfl) (Nat.le_of_ble_eq_true rfl) ⟨Nat.zero_le _, Nat.zero_le _⟩ dc_X2_timesPower_25 ?_
      refine ky_imax F ⟨kw_3_186, kw_1_185, kw_1_16, kw_1_186⟩ hl.1 (Nat.le_of_ble_eq_true rfl) (Nat.le_of_ble_eq_true rfl) ⟨Nat.zero_le _, Nat.zero_le _⟩ dc_X2_timesPower_28 ?_
      refine lv_istore_n (lv' := [(3, .int (jimax ((-2200 : Int32)) (jimin ((2200 : Int32)) (a1)))), (0, .long (a0)), (2, .int (a1))]) hx hb dc_X2_timesPower_31 rfl hl (by decide) rfl (fun ls hl => ?_)
      refine lv_lload_n hx hb dc_X2_timesPower_32 rfl (lv_at hl 1 rfl) ?_
      refine ky_cS0 (As := [.long (a0)]) F (mt_X0_factorIn l (a0)) ks_X2_28 ⟨⟨rfl, rfl⟩, by decide, by decide⟩ rfl hl.1 rfl (Nat.le_of_ble_eq_true rfl) ⟨Nat.zero_le _, Nat.zero_le _⟩ dc_X2_timesPower_33 ?_
      refine lv_lload_n hx hb dc_X2_timesPower_36 rfl (lv_at hl 1 rfl) ?_
      refine ky_cS0 (As := [.long (a0)]) F (mt_X0_powerIn l (a0)) ks_X2_31 ⟨⟨rfl, rfl⟩, by decide, by decide⟩ rfl hl.1 rfl (Nat.le_of_ble_eq_true rfl) ⟨Nat.zero_le _, Nat.zero_le _⟩ dc_X2_timesPower_37 ?_
      refine lv_iload_n hx hb dc_X2_timesPower_40 rfl (lv_at hl 0 rfl) ?_
      refine lv_iadd hx hb dc_X2_timesPower_41 ?_
      refine ky_cS0 (As := [.long (fn_X0_factorIn (a0)), .int ((fn_X0_powerIn (a0)) + (jimax ((-2200 : Int32)) (jimin ((2200 : Int32)) (a1))))]) F (mt_X2_nearestTo l (fn_X0_factorIn (a0)) ((fn_X0_powerIn (a0)) + (jimax ((-2200 : Int32)) (jimin ((2200 : Int32)) (a1))))) ks_X2_35 ⟨⟨rfl, rfl⟩, by decide, by decide⟩ rfl hl.1 rfl (Nat.le_of_ble_eq_true rfl) ⟨Nat.zero_le _, Nat.zero_le _⟩ dc_X2_timesPower_42 ?_
      refine lv_lload_n hx hb dc_X2_timesPower_45 rfl (lv_at hl 1 rfl) ?_
      refine ky_cS0 (As := [.long (fn_X2_nearestTo (fn_X0_factorIn (a0)) ((fn_X0_powerIn (a0)) + (jimax ((-2200 : Int32)) (jimin ((2200 : Int32)) (a1))))), .long (a0)]) F (mt_X0_joined l (fn_X2_nearestTo (fn_X0_factorIn (a0)) ((fn_X0_powerIn (a0)) + (jimax ((-2200 : Int32)) (jimin ((2200 : Int32)) (a1))))) (a0)) ks_X2_39 ⟨⟨rfl, rfl⟩, by decide, by decide⟩ rfl hl.1 rfl (Nat.le_of_ble_eq_true rfl) ⟨Nat.zero_le _, Nat.zero_le _⟩ dc_X2_timesPower_46 ?_
      exact W.lret hx hb hr (fun t ht hW => ⟨congrArg (fun z => Outcome.returned (some (Value.long z))) hw.symm, ht⟩) ky_nil dc_X2_timesPower_49
    · have hw := hw.trans (if_neg c_1)
      refine lv_lload_n hx hb dc_X2_timesPower_16 rfl (lv_at hl 0 rfl) ?_
      exact W.lret hx hb hr (fun t ht hW => ⟨congrArg (fun z => Outcome.returned (some (Value.long z))) hw.symm, ht⟩) ky_nil dc_X2_timesPower_17
