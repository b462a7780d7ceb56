/-! statics of the JDK's; small facts on builders -/
theorem kq_compact {G : ky_G} {U : State} (hE : ky_E G U) {A : Nat → Prop} (hfr : ∀ q, A q → ky_fr G q) : va_Z "java/lang/String" "COMPACT_STRINGS" "Z" (.int 1) A U U.heap := hE.z hfr (t := .int 1) (by decide +kernel) (by decide +kernel) (by decide +kernel) (fun _ _ => rfl)
def kf_DO (j : Nat) : Int32 := nI (48 + j % 10)
def kf_DT (j : Nat) : Int32 := nI (48 + j / 10 % 10)
/-- the places of a static array that the premises tell -/
def ky_el (C n d : String) : Cond → Option (Int32 × Int32)
  | .eq (.elem (.static a b c) (.int j)) (.int v) => if a = C ∧ b = n ∧ c = d then some (j, v) else none
  | _ => none
theorem ky_el_of {C n d : String} {w : Cond} {j v : Int32} (h : ky_el C n d w = some (j, v)) : w = .eq (.elem (.static C n d) (.int j)) (.int v) := by
  unfold ky_el at h
  split at h
  · split at h
    · rename_i e
      obtain ⟨rfl, rfl, rfl⟩ := e
      cases h
      rfl
    · cases h
  · cases h
theorem ky_el_in {C n d : String} {N : Nat} {f : Nat → Int32} (h : (flatC (Jvm.Cond.and given_1 narrow_1)).filterMap (ky_el C n d) = (List.range N).map (fun j => (Int32.ofNat j, f j))) (j : Nat) (hj : j < N) : Cond.eq (.elem (.static C n d) (.int (Int32.ofNat j))) (.int (f j)) ∈ flatC (Jvm.Cond.and given_1 narrow_1) := by
  have h1 : (Int32.ofNat j, f j) ∈ (flatC (Jvm.Cond.and given_1 narrow_1)).filterMap (ky_el C n d) := by
    rw [h]
    exact List.mem_map.mpr ⟨j, List.mem_range.mpr hj, rfl⟩
  obtain ⟨w, h2, h3⟩ := List.mem_filterMap.mp h1
  rw [← ky_el_of h3]
  exact h2
theorem kq_DO {G : ky_G} {U : State} (hE : ky_E G U) {A : Nat → Prop} (hfr : ∀ q, A q → ky_fr G q) : ∃ t : Nat, va_Z "java/lang/Integer" "DigitOnes" "[B" (.ref t) A U U.heap ∧ va_T .byte t 100 (fun j => .int (kf_DO j)) A U U.heap := by
  refine hE.tab hfr (by decide +kernel) (by decide +kernel) (by decide) (by decide +kernel) (by decide +kernel) (fun a s hw j hj => va_eqt (hw _ (ky_el_in (N := 100) ?_ j hj)))
  decide +kernel
theorem kq_DT {G : ky_G} {U : State} (hE : ky_E G U) {A : Nat → Prop} (hfr : ∀ q, A q → ky_fr G q) : ∃ t : Nat, va_Z "java/lang/Integer" "DigitTens" "[B" (.ref t) A U U.heap ∧ va_T .byte t 100 (fun j => .int (kf_DT j)) A U U.heap := by
  refine hE.tab hfr (by decide +kernel) (by decide +kernel) (by decide) (by decide +kernel) (by decide +kernel) (fun a s hw j hj => va_eqt (hw _ (ky_el_in (N := 100) ?_ j hj)))
  decide +kernel
theorem ky_srecv {a : Nat} {A : Nat → Prop} {s : State} {H : Heap} {locs : List Loc} (h : va_O "java/lang/String" a A s s.heap) (hS : va_S A s.heap H locs) : ∃ cell : Cell, H[a]? = some cell ∧ cell.vm.isStatics = false ∧ s.vm.findClass "java/lang/String" = some cell.cls := by
  obtain ⟨cell, h1, h2, h3, -⟩ := h.kept hS.2.1
  exact ⟨cell, h1, h2, h3⟩
theorem ky_sle {q m : Nat} (hq : q < 2 ^ 20) (hm : m < 2 ^ 20) (h : (nI q - nI m) ≤ (0 : Int32)) : q ≤ m := by
  rw [Int32.le_iff_toInt_le, pk_sub_toInt (by omega) (by omega), Int32.toInt_zero] at h
  omega
theorem ky_nsle {q m : Nat} (hq : q < 2 ^ 20) (hm : m < 2 ^ 20) (h : ¬ (nI q - nI m) ≤ (0 : Int32)) : ¬ q ≤ m := by
  rw [Int32.le_iff_toInt_le, pk_sub_toInt (by omega) (by omega), Int32.toInt_zero] at h
  omega
theorem ky_m2.lt {m : Nat} (h : ky_m2 m) : m < 2 ^ 20 := by rcases h with rfl | rfl <;> decide
theorem ky_m2.small {m q : Nat} (h : ky_m2 m) (hq : q ≤ 34) (hn : ¬ q ≤ m) : m = 16 := by rcases h with rfl | rfl <;> omega
theorem ky_mx {g : Nat} (h : g ≤ 18) : jimax (nI g) 18 = 18 := by
  show (if nI g < nI 18 then (18 : Int32) else nI g) = 18
  by_cases e : g < 18
  · rw [if_pos (nI_lt e (by decide))]
  · rw [show g = 18 by omega]
    rfl
theorem ky_fitN (x : Int32) : fits .byte (.int (vp_nar .byte x)) = true := by
  rw [vp_nar_byte]
  exact pk_fb _
theorem ky_Str.recv {G : ky_G} {a w : Nat} {f : Nat → Int32} {s : State} (h : ky_Str G a w f) (hE : ky_E G s) {A : Nat → Prop} (hfr : ∀ q, A q → ky_fr G q) {H : Heap} {locs : List Loc} (hS : va_S A s.heap H locs) : ∃ cell : Cell, H[a]? = some cell ∧ cell.vm.isStatics = false ∧ s.vm.findClass "java/lang/String" = some cell.cls := by
  obtain ⟨v, h1, -⟩ := h.at hE hfr
  exact ky_srecv h1 hS
theorem ky_cl0 (w M : Nat) (h : w < 2 ^ 20) (hM : w ≤ M) : (0 : Int32).toNatClampNeg + (nI w).toNatClampNeg ≤ M := by
  rw [nI_clamp (by omega)]
  show 0 + w ≤ M
  omega
theorem ky_cl2 (n w M : Nat) (hn : n < 2 ^ 20) (h : w < 2 ^ 20) (hM : n + w ≤ M) : (nI n).toNatClampNeg + (nI w).toNatClampNeg ≤ M := by
  rw [nI_clamp (by omega), nI_clamp (by omega)]
  exact hM
