/-! the launch's own classes -/
theorem ky_arr {s : State} {args : Array Value} {ty : FieldType} (h : (Cond.arrayClass ty).before args s = true) (ht : ∀ C, ty ≠ .object C) : ∃ cA : ClassId, ArrOfT s cA ty ∧ va_RA s cA ty := by
  obtain ⟨cA, kA, comp, h1, h2, h3⟩ := Cond.arrayClass_spec h
  refine ⟨cA, fun n z => ⟨fun k q => (by cases q), kA, h2, comp, h3⟩, ?_⟩
  cases ty with
  | object C => exact absurd rfl (ht C)
  | _ => exact h1
theorem ky_arrI {s : State} {args : Array Value} {C : String} (h : (Cond.arrayOver (.object C)).before args s = true) : ∃ cA : ClassId, ArrOfT s cA (.object C) ∧ va_RA s cA (.object C) := by
  obtain ⟨comp, cA, kA, h1, -, h3, h4, h5⟩ := Cond.arrayOver_spec h
  exact ⟨cA, fun n z => ⟨fun k q => (by cases q), kA, h3, comp, h4⟩, kA, comp, h3, h4, h1, h5⟩
theorem ky_arrA {s : State} {args : Array Value} (h : (Cond.arrayOver (.array .long)).before args s = true) : ∃ cA : ClassId, ArrOfT s cA (.array .long) ∧ va_RA s cA (.array .long) := by
  obtain ⟨comp, cA, kA, h1, -, h3, h4, h5⟩ := arrayOverA_spec h
  exact ⟨cA, fun n z => ⟨fun k q => (by cases q), kA, h3, comp, h4⟩, h5⟩
theorem ky_G0 {s : State} {b : Nat} (hts : ∀ w ∈ lw_tbl, w.before #[Value.ref b] s = true) (hg : (Jvm.Cond.and given_1 narrow_1).before #[Value.ref b] s = true) : ∃ G : ky_G, G.2.2 = s ∧ ky_E G s := by
  have hB : ∀ w ∈ ky_B, w.before #[Value.ref b] s = true := fun w hw => hts w (ky_sub w hw)
  obtain ⟨c0, i0, k0⟩ := u_known (T := TX6) (N := 6) hB ki_X6 (hts _ (kc_1 _ (List.mem_of_getElem? (i := 31) rfl)))
  obtain ⟨c1, i1, k1⟩ := u_known (T := TX3) (N := 2) hB ki_X3 (hts _ (kc_1 _ (List.mem_of_getElem? (i := 39) rfl)))
  obtain ⟨c2, i2, k2⟩ := u_known (T := TX1) (N := 1) hB ki_X1 (hts _ (kc_1 _ (List.mem_of_getElem? (i := 87) rfl)))
  obtain ⟨c3, i3, k3⟩ := u_known (T := TX7) (N := 2) hB ki_X7 (hts _ (kc_4 _ (List.mem_of_getElem? (i := 67) rfl)))
  obtain ⟨c4, i4, k4⟩ := u_known (T := TX8) (N := 2) hB ki_X8 (hts _ (kc_6 _ (List.mem_of_getElem? (i := 5) rfl)))
  obtain ⟨c5, i5, k5⟩ := u_known (T := TX9) (N := 5) hB ki_X9 (hts _ (kc_5 _ (List.mem_of_getElem? (i := 238) rfl)))
  obtain ⟨c6, i6, k6⟩ := u_known (T := TJ4) (N := 4) hB ki_J4 (hts _ (kc_1 _ (List.mem_of_getElem? (i := 45) rfl)))
  obtain ⟨c7, i7, k7⟩ := u_known (T := TJ0) (N := 4) hB ki_J0 (hts _ (kc_2 _ (List.mem_of_getElem? (i := 72) rfl)))
  obtain ⟨y0, a0⟩ := ky_arr (ty := .byte) (hts _ (kc_1 _ (List.mem_of_getElem? (i := 77) rfl))) (fun _ h => by cases h)
  obtain ⟨y1, a1⟩ := ky_arr (ty := .char) (hts _ (kc_1 _ (List.mem_of_getElem? (i := 85) rfl))) (fun _ h => by cases h)
  obtain ⟨y2, a2⟩ := ky_arr (ty := .long) (hts _ (kc_1 _ (List.mem_of_getElem? (i := 76) rfl))) (fun _ h => by cases h)
  obtain ⟨y3, a3⟩ := ky_arrI (C := "ExactdoublesModel$Its") (hts _ (kc_6 _ (List.mem_of_getElem? (i := 4) rfl)))
  obtain ⟨y4, a4⟩ := ky_arrA (hts _ (kc_1 _ (List.mem_of_getElem? (i := 93) rfl)))
  obtain ⟨y5, a5⟩ := ky_arr (ty := .int) (hts _ (kc_8 _ (List.mem_of_getElem? (i := 21) rfl))) (fun _ h => by cases h)
  refine ⟨((fun n => match n with | 0 => c0 | 1 => c1 | 2 => c2 | 3 => c3 | 4 => c4 | 5 => c5 | 6 => c6 | _ => c7, fun n => match n with | 0 => i0 | 1 => i1 | 2 => i2 | 3 => i3 | 4 => i4 | 5 => i5 | 6 => i6 | _ => i7), fun n => match n with | 0 => y0 | 1 => y1 | 2 => y2 | 3 => y3 | 4 => y4 | _ => y5, s), rfl, ⟨fun n q hq => ?_, fun n q hq => ?_⟩, Nat.le_refl _, fun _ _ => rfl, State.WarmedH.refl s, b, hts, hg⟩
  · match n, hq with
    | 0, hq => cases hq; exact k0
    | 1, hq => cases hq; exact k1
    | 2, hq => cases hq; exact k2
    | 3, hq => cases hq; exact k3
    | 4, hq => cases hq; exact k4
    | 5, hq => cases hq; exact k5
    | 6, hq => cases hq; exact k6
    | 7, hq => cases hq; exact k7
    | n + 8, hq => cases hq
  · match n, hq with
    | 0, hq => cases hq; exact a0
    | 1, hq => cases hq; exact a1
    | 2, hq => cases hq; exact a2
    | 3, hq => cases hq; exact a3
    | 4, hq => cases hq; exact a4
    | 5, hq => cases hq; exact a5
    | n + 6, hq => cases hq
