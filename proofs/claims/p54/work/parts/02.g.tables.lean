def kf_SF (j : Nat) : Int64 := ([1, 4503599627370495, 1, 9007199254740991, 9007199254740991, 9007199254740991, 9007199254740991, 9007199254740991, 9007199254740991, 4294967295, 5, 4503599627370497] : List Int64).getD j 0
theorem kq_SF {G : ky_G} {U : State} (hE : ky_E G U) {A : Nat → Prop} (hfr : ∀ q, A q → ky_fr G q) : ∃ t : Nat, va_Z "Exactdoubles" "SAMPLE_FACTORS" "[J" (.ref t) A U U.heap ∧ va_T .long t 12 (fun j => .long (kf_SF j)) A U U.heap := by
  refine hE.tab hfr (by decide +kernel) (by decide +kernel) (by decide) (by decide +kernel) (by decide +kernel) (fun a s hw j hj => va_eqtl (hw _ ?_))
  have h : (List.range 12).all (fun j => decide (Cond.eq (.elem (.static "Exactdoubles" "SAMPLE_FACTORS" "[J") (.int (Int32.ofNat j))) (.long (kf_SF j)) ∈ flatC (Jvm.Cond.and given_1 narrow_1))) = true := by decide +kernel
  exact of_decide_eq_true (List.all_eq_true.mp h j (List.mem_range.mpr hj))
def kf_SP (j : Nat) : Int32 := ([-1074, -1074, -1022, 971, -53, -54, -1, 0, 10, -1, -1, 0] : List Int32).getD j 0
theorem kq_SP {G : ky_G} {U : State} (hE : ky_E G U) {A : Nat → Prop} (hfr : ∀ q, A q → ky_fr G q) : ∃ t : Nat, va_Z "Exactdoubles" "SAMPLE_POWERS" "[I" (.ref t) A U U.heap ∧ va_T .int t 12 (fun j => .int (kf_SP j)) A U U.heap := by
  refine hE.tab hfr (by decide +kernel) (by decide +kernel) (by decide) (by decide +kernel) (by decide +kernel) (fun a s hw j hj => va_eqt (hw _ ?_))
  have h : (List.range 12).all (fun j => decide (Cond.eq (.elem (.static "Exactdoubles" "SAMPLE_POWERS" "[I") (.int (Int32.ofNat j))) (.int (kf_SP j)) ∈ flatC (Jvm.Cond.and given_1 narrow_1))) = true := by decide +kernel
  exact of_decide_eq_true (List.all_eq_true.mp h j (List.mem_range.mpr hj))
