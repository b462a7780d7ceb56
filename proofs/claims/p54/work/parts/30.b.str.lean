theorem ky_dummy : True := trivial
/-! String constants and builders: their pictures -/
def ky_fit (f : Nat → Int32) : Prop := ∀ i : Nat, fits .byte (.int (f i)) = true
def ky_Sc (a w : Nat) (f : Nat → Int32) (A : Nat → Prop) (U : State) (H : Heap) : Prop := ∃ v : Nat, va_O "java/lang/String" a A U H ∧ va_OF "java/lang/String" "coder" "B" (.int 0) a A U H ∧ va_OF "java/lang/String" "value" "[B" (.ref v) a A U H ∧ va_T .byte v w (fun j => .int (f j)) A U H
/-- a String constant of w signs f: it stands there from the start -/
def ky_Str (G : ky_G) (a w : Nat) (f : Nat → Int32) : Prop := ky_Sc a w f (ky_fr G) G.2.2 G.2.2.heap ∧ ky_fit f ∧ w < 2 ^ 20
theorem ky_Str.at {G : ky_G} {a w : Nat} {f : Nat → Int32} {U : State} (h : ky_Str G a w f) (hE : ky_E G U) {A : Nat → Prop} (hfr : ∀ q, A q → ky_fr G q) : ky_Sc a w f A U U.heap := by
  obtain ⟨⟨v, h1, h2, h3, h4⟩, -⟩ := h
  have hk : ∀ a : Nat, a < G.2.2.heap.size → ¬ ky_fr G a → U.heap[a]? = G.2.2.heap[a]? := fun a h _ => hE.2.2.1 a h
  have hm := hE.2.2.2.1.alike
  exact ⟨v, ((h1.kept hk).moved hm).narrow hfr, ((h2.kept hk).moved hm).narrow hfr, ((h3.kept hk).moved hm).narrow hfr, ((h4.kept hk).moved hm).narrow hfr⟩
theorem ky_fitL {L : List Int32} (h : L.all (fun x => fits .byte (.int x)) = true) : ky_fit (fun j => L.getD j 0) := by
  intro i
  show fits .byte (.int (L.getD i 0)) = true
  rw [List.getD_eq_getElem?_getD]
  cases e : L[i]? with
  | none => rfl
  | some x => exact List.all_eq_true.mp h x (List.mem_of_getElem? e)
theorem ky_E.strc {G : ky_G} {U : State} (hE : ky_E G U) {own tx : String} {k : Nat} {L : List Int32} (h1 : Cond.stringRef own k tx ∈ lw_tbl) (h2 : Cond.exactly (.string own k) "java/lang/String" ∈ flatC (Jvm.Cond.and given_1 narrow_1))
    (h3 : Cond.eq (.field (.string own k) "java/lang/String" "coder" "B") (.int 0) ∈ flatC (Jvm.Cond.and given_1 narrow_1)) (h4 : Cond.arrayOf (.field (.string own k) "java/lang/String" "value" "[B") .byte ∈ flatC (Jvm.Cond.and given_1 narrow_1))
    (h5 : Cond.eq (.length (.field (.string own k) "java/lang/String" "value" "[B")) (.int (Int32.ofNat L.length)) ∈ flatC (Jvm.Cond.and given_1 narrow_1)) (hL : L.length < 2 ^ 20) (hf : L.all (fun x => fits .byte (.int x)) = true)
    (h6 : (List.range L.length).all (fun j => decide (Cond.eq (.elem (.field (.string own k) "java/lang/String" "value" "[B") (.int (Int32.ofNat j))) (.int (L.getD j 0)) ∈ flatC (Jvm.Cond.and given_1 narrow_1))) = true) : ∃ a : Nat, vk_R own k tx a U ∧ ky_Str G a L.length (fun j => L.getD j 0) := by
  obtain ⟨b, k1, k2⟩ := hE.narrow
  have hA : ∀ a : Nat, a < G.2.2.heap.size → ¬ ky_fr G a := fun a h => Nat.not_le.mpr h
  obtain ⟨a, c, cA, kA, q1, q2, q3, q4, q5, q6, -⟩ := Cond.exactly_spec (args := #[Value.ref b]) (first := G.2.2) (o := none) (s := G.2.2) (idx := []) (t := .string own k) (cls := "java/lang/String") (k2 _ h2)
  obtain ⟨t, ht, hT⟩ := va_Tof (f := fun j => .int (L.getD j 0)) (A := ky_fr G) (Nat.lt_trans hL (by decide)) (k2 _ h4) (va_eqt (k2 _ h5)) (fun j hj => va_eqt (k2 _ (of_decide_eq_true (List.all_eq_true.mp h6 j (List.mem_range.mpr hj))))) hA
  exact ⟨a, (vk_R.of (A := #[Value.ref b]) (k1 _ h1) q1).warm hE.2.2.2.1, ⟨t, ⟨cA, q3, q5, by rw [q6]; exact q2, hA a (Array.getElem?_eq_some_iff.mp q3).1⟩, vk_OFof q1 (va_eqt (k2 _ h3)) hA, vk_OFof q1 ht hA, hT⟩, ky_fitL hf, hL⟩
theorem ky_s1 {G : ky_G} {U : State} (hE : ky_E G U) : ∃ a : Nat, vk_R "Exactdoubles$Scribe" 70 "*2^" a U ∧ ky_Str G a 3 (fun j => ([42, 50, 94] : List Int32).getD j 0) := hE.strc (L := [42, 50, 94]) (by decide +kernel) (by decide +kernel) (by decide +kernel) (by decide +kernel) (by decide +kernel) (by decide) (by decide) (by decide +kernel)
theorem ky_s2 {G : ky_G} {U : State} (hE : ky_E G U) : ∃ a : Nat, vk_R "ExactdoublesModel$Its" 55 "" a U ∧ ky_Str G a 0 (fun j => ([] : List Int32).getD j 0) := hE.strc (L := []) (by decide +kernel) (by decide +kernel) (by decide +kernel) (by decide +kernel) (by decide +kernel) (by decide) (by decide) (by decide +kernel)
theorem ky_s3 {G : ky_G} {U : State} (hE : ky_E G U) : ∃ a : Nat, vk_R "ExactdoublesModel$Its" 57 "-" a U ∧ ky_Str G a 1 (fun j => ([45] : List Int32).getD j 0) := hE.strc (L := [45]) (by decide +kernel) (by decide +kernel) (by decide +kernel) (by decide +kernel) (by decide +kernel) (by decide) (by decide) (by decide +kernel)
theorem ky_s4 {G : ky_G} {U : State} (hE : ky_E G U) : ∃ a : Nat, vk_R "ExactdoublesModel$Its" 66 "0" a U ∧ ky_Str G a 1 (fun j => ([48] : List Int32).getD j 0) := hE.strc (L := [48]) (by decide +kernel) (by decide +kernel) (by decide +kernel) (by decide +kernel) (by decide +kernel) (by decide) (by decide) (by decide +kernel)
theorem ky_s5 {G : ky_G} {U : State} (hE : ky_E G U) : ∃ a : Nat, vk_R "ExactdoublesModel$Its" 68 "E" a U ∧ ky_Str G a 1 (fun j => ([69] : List Int32).getD j 0) := hE.strc (L := [69]) (by decide +kernel) (by decide +kernel) (by decide +kernel) (by decide +kernel) (by decide +kernel) (by decide) (by decide) (by decide +kernel)
theorem ky_s6 {G : ky_G} {U : State} (hE : ky_E G U) : ∃ a : Nat, vk_R "ExactdoublesModel$Its" 79 "*2^" a U ∧ ky_Str G a 3 (fun j => ([42, 50, 94] : List Int32).getD j 0) := hE.strc (L := [42, 50, 94]) (by decide +kernel) (by decide +kernel) (by decide +kernel) (by decide +kernel) (by decide +kernel) (by decide) (by decide) (by decide +kernel)
theorem ky_s7 {G : ky_G} {U : State} (hE : ky_E G U) : ∃ a : Nat, vk_R "ExactdoublesModel" 171 "" a U ∧ ky_Str G a 0 (fun j => ([] : List Int32).getD j 0) := hE.strc (L := []) (by decide +kernel) (by decide +kernel) (by decide +kernel) (by decide +kernel) (by decide +kernel) (by decide) (by decide) (by decide +kernel)
/-- a builder: its row of bytes has m places, n of them are used -/
abbrev ky_WT (G : ky_G) (b va m n : Nat) (f : Nat → Int32) (ml : Int32) : va_W := [(b, .inr (6, [.ref va, .int 0, .int ml, .int (nI n)])), (va, .inl (G.2.1 0, m, .inl f))]
/-- a row's new length, its price -/
def ky_cap (m q : Nat) : Nat := if q ≤ m then m else 34
def ky_gc (m q : Nat) : Nat := if q ≤ m then 0 else 1
def ky_gs (m q : Nat) : Nat := if q ≤ m then 0 else 34
def ky_m2 (m : Nat) : Prop := m = 16 ∨ m = 34
theorem ky_m2.cap {m q : Nat} (h : ky_m2 m) : ky_m2 (ky_cap m q) := by
  unfold ky_cap
  split
  · exact h
  · exact Or.inr rfl
theorem ky_m2.le {m q : Nat} (h : ky_m2 m) (hq : q ≤ 34) : q ≤ ky_cap m q ∧ m ≤ ky_cap m q ∧ ky_cap m q ≤ 34 := by
  unfold ky_cap
  rcases h with rfl | rfl <;> split <;> omega
/-- what was paid for a row so long -/
def ky_pc (m : Nat) : Nat := if m = 16 then 0 else 1
def ky_ps (m : Nat) : Nat := if m = 16 then 0 else 34
theorem ky_pay {m q : Nat} (h : ky_m2 m) (hq : q ≤ 34) : ky_pc m + ky_gc m q ≤ ky_pc (ky_cap m q) ∧ ky_ps m + ky_gs m q ≤ ky_ps (ky_cap m q) := by
  unfold ky_pc ky_ps ky_gc ky_gs ky_cap
  rcases h with rfl | rfl <;> split <;> (try split) <;> (try split) <;> (try split) <;> omega
theorem ky_pmost (m : Nat) : ky_pc m ≤ 1 ∧ ky_ps m ≤ 34 := by
  unfold ky_pc ky_ps
  split <;> omega
theorem ky_gc1 {m q : Nat} (h : ¬ q ≤ m) : ky_gc m q = 1 := if_neg h
theorem ky_gs1 {m q : Nat} (h : ¬ q ≤ m) : ky_gs m q = 34 := if_neg h
theorem ky_cap0 {m q : Nat} (h : q ≤ m) : ky_cap m q = m := if_pos h
theorem ky_cap1 {m q : Nat} (h : ¬ q ≤ m) : ky_cap m q = 34 := if_neg h
theorem ky_fitU {f : Nat → Int32} (h : ky_fit f) (k : Nat) {x : Int32} (hx : fits .byte (.int x) = true) : ky_fit (upd f k x) := by
  intro i
  by_cases e : i = k
  · rw [e, pk_us]; exact hx
  · rw [pk_un e]; exact h i
theorem ky_fit0 : ky_fit (fun _ => 0) := fun _ => rfl
theorem ky_fitC {f g : Nat → Int32} (hf : ky_fit f) (hg : ky_fit g) (a b n : Nat) : ky_fit (va_cpy f g a b n) := by
  intro i
  by_cases h : b ≤ i ∧ i < b + n
  · rw [pk_cpy_in h.1 h.2]; exact hf _
  · rw [pk_cpy_out (by omega)]; exact hg _
