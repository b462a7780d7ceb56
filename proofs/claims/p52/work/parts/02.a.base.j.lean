section
/-! words that are kept over calls: all good ones of the tables -/
def ky_B : List Cond := lw_tbl.filter goodWord
theorem ky_mem {w : Cond} (h : w ∈ lw_tbl) (hg : goodWord w = true) : w ∈ ky_B := List.mem_filter.mpr ⟨h, hg⟩
theorem ky_good : ∀ w ∈ ky_B, goodWord w = true := fun _ h => (List.mem_filter.mp h).2
theorem ky_sub : ∀ w ∈ ky_B, w ∈ lw_tbl := fun _ h => (List.mem_filter.mp h).1
theorem ky_in {ws : List Cond} (h : ∀ w ∈ ws, w ∈ ky_B) : GoodIn ky_B ws := fun w hw => ⟨h w hw, good_of_word (ky_good w (h w hw))⟩
/-! what holds at a method's entry, and at each of its instructions -/
def ky_F (p : Program) (s : State) (m : MethodId) (meth : Method) (c : Code) (own : String) (cc : ByteArray) (maxL : Nat) (ret : Option FieldType) (args : Array Value) : Prop :=
  p.tables.exec = Jvm.exec ∧ c.code = cc ∧ c.maxLocals = maxL ∧ s.vm.findClass own = some m.cls ∧ meth.sig.returnType = ret ∧ meth.locks = false ∧ ∀ w ∈ ky_B, w.before args s = true
/-! pure methods: nothing of the heap is read or written -/
def ky_P0 (As : List Value) : Array Value → State → Prop := fun v _ => v = As.toArray
def ky_Q0 (v : Option Value) : Array Value → State → Outcome → State → Prop := fun _ st o t => o = .returned v ∧ t.heap = st.heap
theorem ky_start0 {l : Launch} {y : MethodName} {cc : ByteArray} {maxL : Nat} {ret : Option FieldType} {rm : Room} {As : List Value} {v : Option Value} (hy : plainName y.cls = true) (hlen : (lg_sl As).length ≤ maxL)
    (body : ∀ (p : Program) (e : Env) (s : State) (m : MethodId) (below : List Frame) (meth : Method) (c : Code), ky_F p s m meth c y.cls cc maxL ret As.toArray → ∀ ls : Array Slot, lv_has ls maxL (lv_args 0 As) →
      W p l e rm s m As.toArray below meth c s.heap [] 0 0 (MQ below (ky_Q0 v) As.toArray s 0 0 (fun _ => False)) (F0 m 0 ls [])) :
    Met l y (.code y cc maxL ret :: ky_B) rm (ky_P0 As) (ky_Q0 v) 0 0 (fun _ => False) := by
  refine Met.ofW (cc := cc) (maxL := maxL) (ret := ret) hy rfl ?_
  intro p e s m args below meth c s₁ B hml hv
  obtain rfl := hv
  have hts := atoms_spec (ws := .code y cc maxL ret :: ky_B) B.pre
  have F : ky_F p s m meth c y.cls cc maxL ret As.toArray := ⟨B.exec, B.bytes, hml, findClass_of_methodNamed B.named, B.returns, B.notSynchronized, fun w hw => hts w (List.mem_cons_of_mem _ hw)⟩
  have hl := lv_entry As (n := maxL) hlen
  rw [lg_entry_eq]
  exact body p e s m below meth c F _ hl
/-- a static method's words at a place that calls it -/
def ky_wS (own : String) (index : Nat) (y : MethodName) (bytes : ByteArray) (maxL : Nat) (ret : Option FieldType) (n : Nat) : Prop :=
  Cond.methodLink own index y ∈ ky_B ∧ Cond.static y ∈ ky_B ∧ Cond.initialized y.cls ∈ ky_B ∧ Cond.code y bytes maxL ret ∈ ky_B ∧ y.cls ≠ "java/lang/invoke/MethodHandle" ∧ y.cls ≠ "java/lang/invoke/VarHandle" ∧ (parseMethodDescriptor y.desc).map (fun d => d.parameters.length) = some n
theorem ky_wS.good {own : String} {index : Nat} {y : MethodName} {bytes : ByteArray} {maxL : Nat} {ret : Option FieldType} {n : Nat} (h : ky_wS own index y bytes maxL ret n) : GoodIn ky_B (va_wsS own index y (.code y bytes maxL ret :: ky_B)) := by
  obtain ⟨h1, h2, h3, h4, -⟩ := h
  refine ky_in (fun w hw => ?_)
  simp only [va_wsS, List.mem_append, List.mem_cons, List.not_mem_nil, or_false] at hw
  rcases hw with (rfl | rfl | rfl) | rfl | hw
  · exact h1
  · exact h2
  · exact h3
  · exact h4
  · exact hw
section KYA
variable {p : Program} {l : Launch} {e : Env} {R : Room} {s : State} {m : MethodId} {args : Array Value} {below : List Frame} {meth : Method} {c : Code} {H : Heap} {locs : List Loc} {cells slots : Nat} {Q : State → Prop}
variable {cc : ByteArray} {own : String} {nL : Nat} {ret9 : Option FieldType} {pc : Nat} {ls : Array Slot} {rest st : List Value}
/-- a call of a pure static method -/
theorem ky_cS0 {y : MethodName} {bytes : ByteArray} {maxL n index : Nat} {ret : Option FieldType} {rm : Room} {As : List Value} {v : Value} (F : ky_F p s m meth c own cc nL ret9 args)
    (hM : Met l y (.code y bytes maxL ret :: ky_B) rm (ky_P0 As) (ky_Q0 (some v)) 0 0 (fun _ => False)) (w : ky_wS own index y bytes maxL ret n)
    (hR : (rm.cells = 0 ∧ rm.slots = 0) ∧ rm.frames + 1 ≤ R.frames ∧ 8 + (maxL + 11) + rm.locals ≤ R.locals) (hn : As.length = n) (hl : ls.size = nL) (hst : st = As.reverse ++ rest) (hcat : (rest.map fun v => v.category).sum ≤ 8) (hf : cells ≤ R.cells ∧ slots ≤ R.slots)
    (hdg : decode cc pc = .ok (.invokestatic index, 3)) (kk : W p l e R s m args below meth c H locs cells slots Q (F0 m (pc + 3) ls (v :: rest))) : W p l e R s m args below meth c H locs cells slots Q (F0 m pc ls st) := by
  obtain ⟨hx, hb, hml, hown, -, -, hts⟩ := F
  have hr := va_runS (l := l) (e := e) (R := R) (below := below) (meth := meth) (H := H) (locs := locs) (cells := cells) (slots := slots) (mc := 0) (ms := 0) (g := F0 m pc ls st) (rest := rest) (As := As) ⟨hx, hb, hml, hown, hts⟩ hM
    (va_cwS (rm := rm) (ws' := ky_B) n hts w.good rfl hR.1.1 hR.1.2 ⟨w.2.2.2.2.1, w.2.2.2.2.2.1, w.2.2.2.2.2.2⟩ hR.2) ⟨fun _ _ _ _ h => h, fun _ _ _ => rfl⟩ rfl hn hl hst (lv_room hcat) hdg hf
  intro T hT X
  obtain ⟨v1, st₀, t, T', L, h0, X', hL, e1, -, ⟨hv, hh⟩, sg⟩ := hr T hT X
  cases hv
  obtain ⟨t2, a1, b1⟩ := kk T' (by rw [e1, hh, h0]) (Stand.forget X' (fun q h => (hL q h).elim))
  exact ⟨t2, sg t2 a1, b1⟩
end KYA
theorem ky_nil {free : Addr → Prop} : ∀ q ∈ ([] : List Loc), free q.base := fun _ h => by cases h
/-! shifts, as the machine has them -/
def jlushr (x : Int64) (y : Int32) : Int64 := (x.toUInt64 >>> (y.toInt64.toUInt64 &&& Int64.toUInt64 63)).toInt64
def jlshl (x : Int64) (y : Int32) : Int64 := x <<< (y.toInt64 &&& 63)
def jlshr (x : Int64) (y : Int32) : Int64 := x >>> (y.toInt64 &&& 63)
def jiushr (x y : Int32) : Int32 := (x.toUInt32 >>> (y.toUInt32 &&& Int32.toUInt32 31)).toInt32
theorem ky_ne {x : Int32} {k : Int} {v : Int32} (hv : v.toInt = k) (h : ¬ x = v) : x.toInt ≠ k := fun z => h (Int32.toInt_inj.mp (z.trans hv.symm))
theorem ky_out3 {x : Int32} (h0 : ¬ x = 0) (h1 : ¬ x = 1) (h2 : ¬ x = 2) : x.toInt < 0 ∨ 2 < x.toInt := by
  have a0 := ky_ne (k := 0) (by decide) h0
  have a1 := ky_ne (k := 1) (by decide) h1
  have a2 := ky_ne (k := 2) (by decide) h2
  omega
theorem ky_nz {x : Int32} (h : x = 0 ∨ x = 1) : narrow .boolean (.int x) = .int x := by
  rcases h with rfl | rfl <;> decide
theorem ky_it {c A B : Prop} [Decidable c] (h : c) (k : if c then A else B) : A := by rwa [if_pos h] at k
theorem ky_if {c A B : Prop} [Decidable c] (h : ¬ c) (k : if c then A else B) : B := by rwa [if_neg h] at k
end
section
section KYM
variable {p : Program} {l : Launch} {e : Env} {R : Room} {s : State} {m : MethodId} {args : Array Value} {below : List Frame} {meth : Method} {c : Code} {H : Heap} {locs : List Loc} {cells slots : Nat} {Q : State → Prop}
variable {cc : ByteArray} {own : String} {nL : Nat} {ret9 : Option FieldType} {pc : Nat} {ls : Array Slot} {rest st : List Value}
def jimax (x y : Int32) : Int32 := if x < y then y else x
theorem ky_imax {index : Nat} (F : ky_F p s m meth c own cc nL ret9 args) (w : Cond.methodLink own index Lib.Math.max.name ∈ ky_B ∧ Cond.static Lib.Math.max.name ∈ ky_B ∧ Cond.initialized "java/lang/Math" ∈ ky_B ∧ Cond.code Lib.Math.max.name Lib.Math.max.code 2 (some .int) ∈ ky_B)
    (hl : ls.size = nL) (hfr : 1 ≤ R.frames) (hlo : (rest.map fun v => v.category).sum + 13 ≤ R.locals) (hf : cells ≤ R.cells ∧ slots ≤ R.slots) {x y : Int32} (hdg : decode cc pc = .ok (.invokestatic index, 3))
    (kk : W p l e R s m args below meth c H locs cells slots Q (F0 m (pc + 3) ls (.int (jimax x y) :: rest))) : W p l e R s m args below meth c H locs cells slots Q (F0 m pc ls (.int y :: .int x :: rest)) := by
  obtain ⟨hx, hb, hml, hown, -, -, hts⟩ := F
  refine va_mmax hx hb (hml.trans hl.symm) hown (hts _ w.1) (hts _ w.2.1) (hts _ w.2.2.1) (hts _ w.2.2.2) hfr hlo hf.1 hf.2 hdg ?_
  exact kk
def jimin (x y : Int32) : Int32 := if y < x then y else x
theorem ky_imin {index : Nat} (F : ky_F p s m meth c own cc nL ret9 args) (w : Cond.methodLink own index Lib.Math.min.name ∈ ky_B ∧ Cond.static Lib.Math.min.name ∈ ky_B ∧ Cond.initialized "java/lang/Math" ∈ ky_B ∧ Cond.code Lib.Math.min.name Lib.Math.min.code 2 (some .int) ∈ ky_B)
    (hl : ls.size = nL) (hfr : 1 ≤ R.frames) (hlo : (rest.map fun v => v.category).sum + 13 ≤ R.locals) (hf : cells ≤ R.cells ∧ slots ≤ R.slots) {x y : Int32} (hdg : decode cc pc = .ok (.invokestatic index, 3))
    (kk : W p l e R s m args below meth c H locs cells slots Q (F0 m (pc + 3) ls (.int (jimin x y) :: rest))) : W p l e R s m args below meth c H locs cells slots Q (F0 m pc ls (.int y :: .int x :: rest)) := by
  obtain ⟨hx, hb, hml, hown, -, -, hts⟩ := F
  refine va_mmin hx hb (hml.trans hl.symm) hown (hts _ w.1) (hts _ w.2.1) (hts _ w.2.2.1) (hts _ w.2.2.2) hfr hlo hf.1 hf.2 hdg ?_
  exact kk
def jlmax (x y : Int64) : Int64 := if y < x then x else y
theorem ky_lmax {index : Nat} (F : ky_F p s m meth c own cc nL ret9 args) (w : Cond.methodLink own index Lib.MathLoose.max_long.x ∈ ky_B ∧ Cond.static Lib.MathLoose.max_long.x ∈ ky_B ∧ Cond.initialized "java/lang/Math" ∈ ky_B ∧ Cond.code Lib.MathLoose.max_long.x Lib.MathLoose.max_long.code 4 (some .long) ∈ ky_B)
    (hl : ls.size = nL) (hfr : 1 ≤ R.frames) (hlo : (rest.map fun v => v.category).sum + 15 ≤ R.locals) (hf : cells ≤ R.cells ∧ slots ≤ R.slots) {x y : Int64} (hdg : decode cc pc = .ok (.invokestatic index, 3))
    (kk : W p l e R s m args below meth c H locs cells slots Q (F0 m (pc + 3) ls (.long (jlmax x y) :: rest))) : W p l e R s m args below meth c H locs cells slots Q (F0 m pc ls (.long y :: .long x :: rest)) := by
  obtain ⟨hx, hb, hml, hown, -, -, hts⟩ := F
  refine va_mmax_long hx hb (hml.trans hl.symm) hown (hts _ w.1) (hts _ w.2.1) (hts _ w.2.2.1) (hts _ w.2.2.2) hfr hlo hf.1 hf.2 hdg ?_
  exact kk
def jlmin (x y : Int64) : Int64 := if y < x then y else x
theorem ky_lmin {index : Nat} (F : ky_F p s m meth c own cc nL ret9 args) (w : Cond.methodLink own index Lib.MathLoose.min_long.x ∈ ky_B ∧ Cond.static Lib.MathLoose.min_long.x ∈ ky_B ∧ Cond.initialized "java/lang/Math" ∈ ky_B ∧ Cond.code Lib.MathLoose.min_long.x Lib.MathLoose.min_long.code 4 (some .long) ∈ ky_B)
    (hl : ls.size = nL) (hfr : 1 ≤ R.frames) (hlo : (rest.map fun v => v.category).sum + 15 ≤ R.locals) (hf : cells ≤ R.cells ∧ slots ≤ R.slots) {x y : Int64} (hdg : decode cc pc = .ok (.invokestatic index, 3))
    (kk : W p l e R s m args below meth c H locs cells slots Q (F0 m (pc + 3) ls (.long (jlmin x y) :: rest))) : W p l e R s m args below meth c H locs cells slots Q (F0 m pc ls (.long y :: .long x :: rest)) := by
  obtain ⟨hx, hb, hml, hown, -, -, hts⟩ := F
  refine va_mmin_long hx hb (hml.trans hl.symm) hown (hts _ w.1) (hts _ w.2.1) (hts _ w.2.2.1) (hts _ w.2.2.2) hfr hlo hf.1 hf.2 hdg ?_
  exact kk
def jlabs (x : Int64) : Int64 := if 0 < x then x else -x
theorem ky_labs {index : Nat} (F : ky_F p s m meth c own cc nL ret9 args) (w : Cond.methodLink own index Lib.MathLoose.abs_long.x ∈ ky_B ∧ Cond.static Lib.MathLoose.abs_long.x ∈ ky_B ∧ Cond.initialized "java/lang/Math" ∈ ky_B ∧ Cond.code Lib.MathLoose.abs_long.x Lib.MathLoose.abs_long.code 2 (some .long) ∈ ky_B)
    (hl : ls.size = nL) (hfr : 1 ≤ R.frames) (hlo : (rest.map fun v => v.category).sum + 13 ≤ R.locals) (hf : cells ≤ R.cells ∧ slots ≤ R.slots) {x : Int64} (hdg : decode cc pc = .ok (.invokestatic index, 3))
    (kk : W p l e R s m args below meth c H locs cells slots Q (F0 m (pc + 3) ls (.long (jlabs x) :: rest))) : W p l e R s m args below meth c H locs cells slots Q (F0 m pc ls (.long x :: rest)) := by
  obtain ⟨hx, hb, hml, hown, -, -, hts⟩ := F
  refine va_mabs_long hx hb (hml.trans hl.symm) hown (hts _ w.1) (hts _ w.2.1) (hts _ w.2.2.1) (hts _ w.2.2.2) hfr hlo hf.1 hf.2 hdg ?_
  exact kk
def jiabs (x : Int32) : Int32 := if 0 ≤ x then x else 0 - x
theorem ky_iabs {index : Nat} (F : ky_F p s m meth c own cc nL ret9 args) (w : Cond.methodLink own index Lib.Math.abs.name ∈ ky_B ∧ Cond.static Lib.Math.abs.name ∈ ky_B ∧ Cond.initialized "java/lang/Math" ∈ ky_B ∧ Cond.code Lib.Math.abs.name Lib.Math.abs.code 1 (some .int) ∈ ky_B)
    (hl : ls.size = nL) (hfr : 1 ≤ R.frames) (hlo : (rest.map fun v => v.category).sum + 13 ≤ R.locals) (hf : cells ≤ R.cells ∧ slots ≤ R.slots) {x : Int32} (hdg : decode cc pc = .ok (.invokestatic index, 3))
    (kk : W p l e R s m args below meth c H locs cells slots Q (F0 m (pc + 3) ls (.int (jiabs x) :: rest))) : W p l e R s m args below meth c H locs cells slots Q (F0 m pc ls (.int x :: rest)) := by
  obtain ⟨hx, hb, hml, hown, -, -, hts⟩ := F
  refine va_mabs hx hb (hml.trans hl.symm) hown (hts _ w.1) (hts _ w.2.1) (hts _ w.2.2.1) (hts _ w.2.2.2) hfr hlo hf.1 hf.2 hdg ?_
  exact kk
end KYM
end
section
theorem kc_1 : ∀ w ∈ tables_1_1, w ∈ lw_tbl := fun w h => List.mem_append_right _ (List.mem_append_left _ (h))
theorem kc_2 : ∀ w ∈ tables_1_2, w ∈ lw_tbl := fun w h => List.mem_append_right _ (List.mem_append_right _ (List.mem_append_left _ (h)))
theorem kc_3 : ∀ w ∈ tables_1_3, w ∈ lw_tbl := fun w h => List.mem_append_right _ (List.mem_append_right _ (List.mem_append_right _ (List.mem_append_left _ (h))))
theorem kc_4 : ∀ w ∈ tables_1_4, w ∈ lw_tbl := fun w h => List.mem_append_right _ (List.mem_append_right _ (List.mem_append_right _ (List.mem_append_right _ (List.mem_append_left _ (h)))))
theorem kc_5 : ∀ w ∈ tables_1_5, w ∈ lw_tbl := fun w h => List.mem_append_right _ (List.mem_append_right _ (List.mem_append_right _ (List.mem_append_right _ (List.mem_append_right _ (List.mem_append_left _ (h))))))
theorem kc_6 : ∀ w ∈ tables_1_6, w ∈ lw_tbl := fun w h => List.mem_append_right _ (List.mem_append_right _ (List.mem_append_right _ (List.mem_append_right _ (List.mem_append_right _ (List.mem_append_right _ (List.mem_append_left _ (h)))))))
theorem kc_7 : ∀ w ∈ tables_1_7, w ∈ lw_tbl := fun w h => List.mem_append_right _ (List.mem_append_right _ (List.mem_append_right _ (List.mem_append_right _ (List.mem_append_right _ (List.mem_append_right _ (List.mem_append_right _ (List.mem_append_left _ (h))))))))
theorem kc_8 : ∀ w ∈ tables_1_8, w ∈ lw_tbl := fun w h => List.mem_append_right _ (List.mem_append_right _ (List.mem_append_right _ (List.mem_append_right _ (List.mem_append_right _ (List.mem_append_right _ (List.mem_append_right _ (List.mem_append_right _ (h))))))))
def RX6 : String := "Exactdoubles"
def TX6 : u_T := fun k => match k with
  | 0 => ("Exactdoubles", "cells", "[J", true)
  | 1 => ("Exactdoubles", "scribe", "LExactdoubles$Scribe;", true)
  | 2 => ("Exactdoubles", "proof", "LExactdoubles$Proof;", true)
  | 3 => ("Exactdoubles", "given", "I", false)
  | 4 => ("Exactdoubles", "refused", "I", false)
  | _ => ("Exactdoubles", "knocks", "I", false)
def tyX6 : Nat → FieldType := fun k => match k with
  | 0 => .array .long
  | 1 => .object "Exactdoubles$Scribe"
  | 2 => .object "Exactdoubles$Proof"
  | 3 => .int
  | 4 => .int
  | _ => .int
theorem nmX6 : ∀ a, a < 6 → ∀ b, b < 6 → a ≠ b → (TX6 a).2.1 ≠ (TX6 b).2.1 := by decide +kernel
theorem tyX6_ok : ∀ k, k < 6 → parseFieldDescriptor (TX6 k).2.2.1 = some (tyX6 k) := by decide +kernel
def RX3 : String := "Exactdoubles$Scribe"
def TX3 : u_T := fun k => match k with
  | 0 => ("Exactdoubles$Scribe", "signs", "Ljava/lang/StringBuilder;", true)
  | _ => ("Exactdoubles$Scribe", "figures", "[C", true)
def tyX3 : Nat → FieldType := fun k => match k with
  | 0 => .object "java/lang/StringBuilder"
  | _ => .array .char
theorem nmX3 : ∀ a, a < 2 → ∀ b, b < 2 → a ≠ b → (TX3 a).2.1 ≠ (TX3 b).2.1 := by decide +kernel
theorem tyX3_ok : ∀ k, k < 2 → parseFieldDescriptor (TX3 k).2.2.1 = some (tyX3 k) := by decide +kernel
def RX1 : String := "Exactdoubles$Proof"
def TX1 : u_T := fun k => match k with
  | _ => ("Exactdoubles$Proof", "taken", "[[J", true)
def tyX1 : Nat → FieldType := fun k => match k with
  | _ => .array (.array .long)
theorem nmX1 : ∀ a, a < 1 → ∀ b, b < 1 → a ≠ b → (TX1 a).2.1 ≠ (TX1 b).2.1 := by decide +kernel
theorem tyX1_ok : ∀ k, k < 1 → parseFieldDescriptor (TX1 k).2.2.1 = some (tyX1 k) := by decide +kernel
def RX7 : String := "ExactdoublesLaw$Out"
def TX7 : u_T := fun k => match k with
  | 0 => ("ExactdoublesLaw$Out", "n", "J", false)
  | _ => ("ExactdoublesLaw$Out", "s", "Ljava/lang/String;", false)
def tyX7 : Nat → FieldType := fun k => match k with
  | 0 => .long
  | _ => .object "java/lang/String"
theorem nmX7 : ∀ a, a < 2 → ∀ b, b < 2 → a ≠ b → (TX7 a).2.1 ≠ (TX7 b).2.1 := by decide +kernel
theorem tyX7_ok : ∀ k, k < 2 → parseFieldDescriptor (TX7 k).2.2.1 = some (tyX7 k) := by decide +kernel
def RX8 : String := "ExactdoublesModel$Its"
def TX8 : u_T := fun k => match k with
  | 0 => ("ExactdoublesModel$Its", "side", "I", true)
  | _ => ("ExactdoublesModel$Its", "size", "J", true)
def tyX8 : Nat → FieldType := fun k => match k with
  | 0 => .int
  | _ => .long
theorem nmX8 : ∀ a, a < 2 → ∀ b, b < 2 → a ≠ b → (TX8 a).2.1 ≠ (TX8 b).2.1 := by decide +kernel
theorem tyX8_ok : ∀ k, k < 2 → parseFieldDescriptor (TX8 k).2.2.1 = some (tyX8 k) := by decide +kernel
def RX9 : String := "ExactdoublesModel"
def TX9 : u_T := fun k => match k with
  | 0 => ("ExactdoublesModel", "thrown", "I", false)
  | 1 => ("ExactdoublesModel", "cells", "[LExactdoublesModel$Its;", true)
  | 2 => ("ExactdoublesModel", "given", "I", false)
  | 3 => ("ExactdoublesModel", "refused", "I", false)
  | _ => ("ExactdoublesModel", "knocks", "I", false)
def tyX9 : Nat → FieldType := fun k => match k with
  | 0 => .int
  | 1 => .array (.object "ExactdoublesModel$Its")
  | 2 => .int
  | 3 => .int
  | _ => .int
theorem nmX9 : ∀ a, a < 5 → ∀ b, b < 5 → a ≠ b → (TX9 a).2.1 ≠ (TX9 b).2.1 := by decide +kernel
theorem tyX9_ok : ∀ k, k < 5 → parseFieldDescriptor (TX9 k).2.2.1 = some (tyX9 k) := by decide +kernel
def RJ4 : String := "java/lang/StringBuilder"
def TJ4 : u_T := fun k => match k with
  | 0 => ("java/lang/AbstractStringBuilder", "value", "[B", false)
  | 1 => ("java/lang/AbstractStringBuilder", "coder", "B", false)
  | 2 => ("java/lang/AbstractStringBuilder", "maybeLatin1", "Z", false)
  | _ => ("java/lang/AbstractStringBuilder", "count", "I", false)
def tyJ4 : Nat → FieldType := fun k => match k with
  | 0 => .array .byte
  | 1 => .byte
  | 2 => .boolean
  | _ => .int
theorem nmJ4 : ∀ a, a < 4 → ∀ b, b < 4 → a ≠ b → (TJ4 a).2.1 ≠ (TJ4 b).2.1 := by decide +kernel
theorem tyJ4_ok : ∀ k, k < 4 → parseFieldDescriptor (TJ4 k).2.2.1 = some (tyJ4 k) := by decide +kernel
def RJ0 : String := "java/lang/String"
def TJ0 : u_T := fun k => match k with
  | 0 => ("java/lang/String", "value", "[B", true)
  | 1 => ("java/lang/String", "coder", "B", true)
  | 2 => ("java/lang/String", "hash", "I", false)
  | _ => ("java/lang/String", "hashIsZero", "Z", false)
def tyJ0 : Nat → FieldType := fun k => match k with
  | 0 => .array .byte
  | 1 => .byte
  | 2 => .int
  | _ => .boolean
theorem nmJ0 : ∀ a, a < 4 → ∀ b, b < 4 → a ≠ b → (TJ0 a).2.1 ≠ (TJ0 b).2.1 := by decide +kernel
theorem tyJ0_ok : ∀ k, k < 4 → parseFieldDescriptor (TJ0 k).2.2.1 = some (tyJ0 k) := by decide +kernel
theorem ki_X6 : ∀ w ∈ u_ws RX6 TX6 6, w ∈ ky_B := (List.forall_mem_cons.mpr ⟨ky_mem (kc_1 _ (List.mem_of_getElem? (i := 104) rfl)) (by decide +kernel), (List.forall_mem_cons.mpr ⟨ky_mem (kc_1 _ (List.mem_of_getElem? (i := 106) rfl)) (by decide +kernel), (List.forall_mem_cons.mpr ⟨ky_mem (kc_1 _ (List.mem_of_getElem? (i := 108) rfl)) (by decide +kernel), (List.forall_mem_cons.mpr ⟨ky_mem (kc_1 _ (List.mem_of_getElem? (i := 110) rfl)) (by decide +kernel), (List.forall_mem_cons.mpr ⟨ky_mem (kc_1 _ (List.mem_of_getElem? (i := 112) rfl)) (by decide +kernel), (List.forall_mem_cons.mpr ⟨ky_mem (kc_1 _ (List.mem_of_getElem? (i := 114) rfl)) (by decide +kernel), (fun _ h => absurd h List.not_mem_nil)⟩)⟩)⟩)⟩)⟩)⟩)
theorem ki_X3 : ∀ w ∈ u_ws RX3 TX3 2, w ∈ ky_B := (List.forall_mem_cons.mpr ⟨ky_mem (kc_1 _ (List.mem_of_getElem? (i := 80) rfl)) (by decide +kernel), (List.forall_mem_cons.mpr ⟨ky_mem (kc_1 _ (List.mem_of_getElem? (i := 82) rfl)) (by decide +kernel), (fun _ h => absurd h List.not_mem_nil)⟩)⟩)
theorem ki_X1 : ∀ w ∈ u_ws RX1 TX1 1, w ∈ ky_B := (List.forall_mem_cons.mpr ⟨ky_mem (kc_1 _ (List.mem_of_getElem? (i := 95) rfl)) (by decide +kernel), (fun _ h => absurd h List.not_mem_nil)⟩)
theorem ki_X7 : ∀ w ∈ u_ws RX7 TX7 2, w ∈ ky_B := (List.forall_mem_cons.mpr ⟨ky_mem (kc_4 _ (List.mem_of_getElem? (i := 74) rfl)) (by decide +kernel), (List.forall_mem_cons.mpr ⟨ky_mem (kc_4 _ (List.mem_of_getElem? (i := 76) rfl)) (by decide +kernel), (fun _ h => absurd h List.not_mem_nil)⟩)⟩)
theorem ki_X8 : ∀ w ∈ u_ws RX8 TX8 2, w ∈ ky_B := (List.forall_mem_cons.mpr ⟨ky_mem (kc_6 _ (List.mem_of_getElem? (i := 14) rfl)) (by decide +kernel), (List.forall_mem_cons.mpr ⟨ky_mem (kc_6 _ (List.mem_of_getElem? (i := 16) rfl)) (by decide +kernel), (fun _ h => absurd h List.not_mem_nil)⟩)⟩)
theorem ki_X9 : ∀ w ∈ u_ws RX9 TX9 5, w ∈ ky_B := (List.forall_mem_cons.mpr ⟨ky_mem (kc_6 _ (List.mem_of_getElem? (i := 24) rfl)) (by decide +kernel), (List.forall_mem_cons.mpr ⟨ky_mem (kc_6 _ (List.mem_of_getElem? (i := 26) rfl)) (by decide +kernel), (List.forall_mem_cons.mpr ⟨ky_mem (kc_6 _ (List.mem_of_getElem? (i := 28) rfl)) (by decide +kernel), (List.forall_mem_cons.mpr ⟨ky_mem (kc_6 _ (List.mem_of_getElem? (i := 30) rfl)) (by decide +kernel), (List.forall_mem_cons.mpr ⟨ky_mem (kc_6 _ (List.mem_of_getElem? (i := 32) rfl)) (by decide +kernel), (fun _ h => absurd h List.not_mem_nil)⟩)⟩)⟩)⟩)⟩)
theorem ki_J4 : ∀ w ∈ u_ws RJ4 TJ4 4, w ∈ ky_B := (List.forall_mem_cons.mpr ⟨ky_mem (kc_1 _ (List.mem_of_getElem? (i := 67) rfl)) (by decide +kernel), (List.forall_mem_cons.mpr ⟨ky_mem (kc_1 _ (List.mem_of_getElem? (i := 69) rfl)) (by decide +kernel), (List.forall_mem_cons.mpr ⟨ky_mem (kc_1 _ (List.mem_of_getElem? (i := 71) rfl)) (by decide +kernel), (List.forall_mem_cons.mpr ⟨ky_mem (kc_1 _ (List.mem_of_getElem? (i := 73) rfl)) (by decide +kernel), (fun _ h => absurd h List.not_mem_nil)⟩)⟩)⟩)⟩)
theorem ki_J0 : ∀ w ∈ u_ws RJ0 TJ0 4, w ∈ ky_B := (List.forall_mem_cons.mpr ⟨ky_mem (kc_2 _ (List.mem_of_getElem? (i := 191) rfl)) (by decide +kernel), (List.forall_mem_cons.mpr ⟨ky_mem (kc_2 _ (List.mem_of_getElem? (i := 193) rfl)) (by decide +kernel), (List.forall_mem_cons.mpr ⟨ky_mem (kc_2 _ (List.mem_of_getElem? (i := 195) rfl)) (by decide +kernel), (List.forall_mem_cons.mpr ⟨ky_mem (kc_2 _ (List.mem_of_getElem? (i := 197) rfl)) (by decide +kernel), (fun _ h => absurd h List.not_mem_nil)⟩)⟩)⟩)⟩)
/-- the classes whose objects the worlds hold -/
abbrev kcl : List vw_C := [(RX6, TX6, 6), (RX3, TX3, 2), (RX1, TX1, 1), (RX7, TX7, 2), (RX8, TX8, 2), (RX9, TX9, 5), (RJ4, TJ4, 4), (RJ0, TJ0, 4)]
end
section
/-! what is known of the heap, by its cells; what all methods take as given -/
abbrev ky_G : Type := va_G × (Nat → ClassId) × State
def ky_fr (G : ky_G) : Nat → Prop := fun q => G.2.2.heap.size ≤ q
abbrev ky_tys (cy : Nat → ClassId) : List (ClassId × FieldType) := [(cy 0, .byte), (cy 1, .char), (cy 2, .long), (cy 3, .object "ExactdoublesModel$Its"), (cy 4, .array .long), (cy 5, .int)]
/-- what the law's start says -/
def ky_S (S0 : State) : Prop := ∃ b : Nat, (∀ w ∈ lw_tbl, w.before #[Value.ref b] S0 = true) ∧ (Jvm.Cond.and given_1 narrow_1).before #[Value.ref b] S0 = true
def ky_E (G : ky_G) (U : State) : Prop :=
  va_K G.1 kcl (ky_tys G.2.1) U ∧ G.2.2.heap.size ≤ U.heap.size ∧ (∀ q : Nat, q < G.2.2.heap.size → U.heap[q]? = G.2.2.heap[q]?) ∧ G.2.2.WarmedH U.vm ∧ ky_S G.2.2
theorem ky_E.at {G : ky_G} {s : State} {A : Nat → Prop} {H : Heap} {locs : List Loc} (hE : ky_E G s) (hfr : ∀ q, A q → ky_fr G q) (hS : va_S A s.heap H locs) : ∀ U : State, U.heap = H → s.WarmedH U.vm → ky_E G U := by
  intro U hU hW
  obtain ⟨h1, h2, h3, h4, h5⟩ := hE
  refine ⟨va_K.moved hW.alike h1, by rw [hU]; exact Nat.le_trans h2 hS.1, fun q hq => ?_, State.WarmedH.trans h4 hW, h5⟩
  rw [hU, hS.2.1 q (Nat.lt_of_lt_of_le hq h2) (fun z => absurd (hfr q z) (Nat.not_le.mpr hq))]
  exact h3 q hq
def ky_P (G : ky_G) (As : List Value) (wc : va_W) (sz : Nat) (EX : Heap → Prop) : Array Value → State → Prop := fun v U => v = As.toArray ∧ ky_E G U ∧ U.heap.size = sz ∧ va_P G.1 kcl wc U.heap ∧ va_D (ky_fr G) wc ∧ EX U.heap
def ky_Q {S : Type} (G : ky_G) (A : Nat → Prop) (post : Option Value → S → Prop) (w1 : S → va_W) (EX1 : S → Heap → Prop) : Array Value → State → Outcome → State → Prop := fun _ st o t =>
  (∃ (v : Option Value) (u : S), o = .returned v ∧ post v u ∧ va_P G.1 kcl (w1 u) t.heap ∧ va_D A (w1 u) ∧ EX1 u t.heap) ∧ va_F A st t
def ky_X (G : ky_G) (A : Nat → Prop) (px : String → Prop) (wx : va_W) : String → State → State → Prop := fun E st t => px E ∧ va_P G.1 kcl wx t.heap ∧ va_D A wx ∧ va_F A st t
theorem ky_P.blind {G : ky_G} {As : List Value} {wc : va_W} {sz : Nat} {EX : Heap → Prop} : FrameBlind (ky_P G As wc sz EX) := by
  rintro a U g mk ⟨h1, ⟨k1, k2, k3, k4, k5⟩, h3, h4, h5, h6⟩
  exact ⟨h1, ⟨va_K.moved (u := U) (U := U.calling g mk a) (Vm.Alike.refl U.vm) k1, k2, k3, k4, k5⟩, h3, h4, h5, h6⟩
theorem ky_start {S : Type} {l : Launch} {y : MethodName} {cc : ByteArray} {maxL : Nat} {ret : Option FieldType} {rm : Room} {As : List Value} {G : ky_G} {wc : va_W} {sz : Nat} {EX : Heap → Prop} {mc ms : Nat} {post : Option Value → S → Prop} {w1 : S → va_W} {EX1 : S → Heap → Prop}
    (hy : plainName y.cls = true) (hlen : (lg_sl As).length ≤ maxL)
    (body : ∀ (p : Program) (e : Env) (s : State) (m : MethodId) (below : List Frame) (meth : Method) (c : Code), ky_F p s m meth c y.cls cc maxL ret As.toArray → ky_E G s → ∀ A : Nat → Prop, A = va_A wc s.heap.size → s.heap.size = sz → (∀ q, s.heap.size ≤ q → A q) → (∀ q, A q → ky_fr G q) →
      va_P G.1 kcl wc s.heap → va_D A wc → va_S A s.heap s.heap [] → EX s.heap → ∀ ls : Array Slot, lv_has ls maxL (lv_args 0 As) →
      W p l e rm s m As.toArray below meth c s.heap [] 0 0 (MQ below (ky_Q G A post w1 EX1) As.toArray s mc ms A) (F0 m 0 ls [])) :
    Met l y (.code y cc maxL ret :: ky_B) rm (ky_P G As wc sz EX) (ky_Q G (va_A wc sz) post w1 EX1) mc ms (va_A wc sz) := by
  refine Met.ofW (cc := cc) (maxL := maxL) (ret := ret) hy rfl ?_
  intro p e s m args below meth c s₁ B hml hv
  obtain ⟨rfl, hE, hsz, hP, hD, hX⟩ := hv
  have hts := atoms_spec (ws := .code y cc maxL ret :: ky_B) B.pre
  have F : ky_F p s m meth c y.cls cc maxL ret As.toArray := ⟨B.exec, B.bytes, hml, findClass_of_methodNamed B.named, B.returns, B.notSynchronized, fun w hw => hts w (List.mem_cons_of_mem _ hw)⟩
  have hl := lv_entry As (n := maxL) hlen
  rw [lg_entry_eq]
  subst hsz
  exact body p e s m below meth c F hE _ rfl rfl (fun q h => Or.inr h) (fun q h => h.elim (fun ⟨k, ee, z⟩ => hD.2 k _ z) (fun z => Nat.le_trans hE.2.1 z)) hP hD.self va_S.rf hX _ hl
theorem ky_startX {S : Type} {l : Launch} {y : MethodName} {cc : ByteArray} {maxL : Nat} {ret : Option FieldType} {rm : Room} {As : List Value} {G : ky_G} {wc : va_W} {sz : Nat} {EX : Heap → Prop} {mc ms : Nat} {post : Option Value → S → Prop} {w1 : S → va_W} {EX1 : S → Heap → Prop} {px : String → Prop} {wx : va_W}
    (hy : plainName y.cls = true) (hlen : (lg_sl As).length ≤ maxL)
    (body : ∀ (p : Program) (e : Env) (s : State) (m : MethodId) (below : List Frame) (meth : Method) (c : Code), ky_F p s m meth c y.cls cc maxL ret As.toArray → (∀ x ∈ c.exceptionTable.toList, False) → ky_E G s → ∀ A : Nat → Prop, A = va_A wc s.heap.size → s.heap.size = sz → (∀ q, s.heap.size ≤ q → A q) → (∀ q, A q → ky_fr G q) →
      va_P G.1 kcl wc s.heap → va_D A wc → va_S A s.heap s.heap [] → EX s.heap → ∀ ls : Array Slot, lv_has ls maxL (lv_args 0 As) →
      W p l e rm s m As.toArray below meth c s.heap [] 0 0 (vx_MQ below (ky_Q G A post w1 EX1) (ky_X G A px wx) As.toArray s mc ms A) (F0 m 0 ls [])) :
    vx_Met l y (.code y cc maxL ret :: ky_B) rm (ky_P G As wc sz EX) (ky_Q G (va_A wc sz) post w1 EX1) (ky_X G (va_A wc sz) px wx) mc ms (va_A wc sz) := by
  refine vx_ofW (cc := cc) (maxL := maxL) (ret := ret) hy rfl ?_
  intro p e s m args below meth c s₁ B hml hno hv
  obtain ⟨rfl, hE, hsz, hP, hD, hX⟩ := hv
  have hts := atoms_spec (ws := .code y cc maxL ret :: ky_B) B.pre
  have F : ky_F p s m meth c y.cls cc maxL ret As.toArray := ⟨B.exec, B.bytes, hml, findClass_of_methodNamed B.named, B.returns, B.notSynchronized, fun w hw => hts w (List.mem_cons_of_mem _ hw)⟩
  have hl := lv_entry As (n := maxL) hlen
  rw [lg_entry_eq]
  subst hsz
  exact body p e s m below meth c F hno hE _ rfl rfl (fun q h => Or.inr h) (fun q h => h.elim (fun ⟨k, ee, z⟩ => hD.2 k _ z) (fun z => Nat.le_trans hE.2.1 z)) hP hD.self va_S.rf hX _ hl
/-- a virtual method's words at a place that calls it -/
def ky_wV (own : String) (index : Nat) (y : MethodName) (bytes : ByteArray) (maxL : Nat) (ret : Option FieldType) (n : Nat) : Prop :=
  Cond.methodLink own index y ∈ ky_B ∧ Cond.instanceMethod y ∈ ky_B ∧ Cond.selects y.cls y y ∈ ky_B ∧ Cond.initialized y.cls ∈ ky_B ∧ Cond.code y bytes maxL ret ∈ ky_B ∧ y.cls ≠ "java/lang/invoke/MethodHandle" ∧ y.cls ≠ "java/lang/invoke/VarHandle" ∧ (parseMethodDescriptor y.desc).map (fun d => d.parameters.length) = some n
theorem ky_wV.good {own : String} {index : Nat} {y : MethodName} {bytes : ByteArray} {maxL : Nat} {ret : Option FieldType} {n : Nat} (h : ky_wV own index y bytes maxL ret n) : GoodIn ky_B (wsV own index y.cls y (.code y bytes maxL ret :: ky_B)) := by
  obtain ⟨h1, h2, h3, h4, h5, -⟩ := h
  refine ky_in (fun w hw => ?_)
  simp only [wsV, List.mem_append, List.mem_cons, List.not_mem_nil, or_false] at hw
  rcases hw with (rfl | rfl | rfl | rfl) | rfl | hw
  · exact h1
  · exact h2
  · exact h3
  · exact h4
  · exact h5
  · exact hw
/-- a constructor's words -/
def ky_wI (own : String) (index : Nat) (y : MethodName) (bytes : ByteArray) (maxL : Nat) (n : Nat) : Prop :=
  Cond.methodLink own index y ∈ ky_B ∧ Cond.instanceMethod y ∈ ky_B ∧ Cond.initialized y.cls ∈ ky_B ∧ Cond.code y bytes maxL none ∈ ky_B ∧ y.name = "<init>" ∧ y.cls ≠ "java/lang/invoke/MethodHandle" ∧ y.cls ≠ "java/lang/invoke/VarHandle" ∧ (parseMethodDescriptor y.desc).map (fun d => d.parameters.length) = some n
section KYB
variable {p : Program} {l : Launch} {e : Env} {R : Room} {s : State} {m : MethodId} {args : Array Value} {below : List Frame} {meth : Method} {c : Code} {H : Heap} {locs : List Loc} {cells slots : Nat} {Q : State → Prop}
variable {cc : ByteArray} {own : String} {nL : Nat} {ret9 : Option FieldType} {pc : Nat} {ls : Array Slot} {rest st0 : List Value} {mc ms : Nat} {a : Array Value} {A : Nat → Prop} {G : ky_G}
theorem ky_run {S : Type} {post : Option Value → S → Prop} {w1 : S → va_W} {EX1 : S → Heap → Prop} {ws wc wr : va_W}
    (hr : va_Run p l e R s m args below meth c H locs cells slots mc ms (F0 m pc ls st0) rest (ky_Q G (va_A wc H.size) post w1 EX1 a) (va_A wc H.size)) (hP : va_P G.1 kcl ws H) (hD : va_D A ws) (hS : va_S A s.heap H locs) (hA : ∀ q, s.heap.size ≤ q → A q)
    (isC isR : List Nat) (hC : isC.map (fun i => ws[i]?) = wc.map some) (hR : isR.map (fun i => ws[i]?) = wr.map some) (hn : va_nd isR = true) (hdis : ∀ i ∈ isR, i ∉ isC)
    (kk : ∀ (v : Option Value) (u : S) (H1 : Heap) (locs1 : List Loc), post v u → va_P G.1 kcl (wr ++ w1 u) H1 → va_D A (wr ++ w1 u) → va_S A s.heap H1 locs1 → EX1 u H1 → H.size ≤ H1.size → (∀ q : Nat, q < H.size → ¬ va_A wc H.size q → H1[q]? = H[q]?) →
      W p l e R s m args below meth c H1 locs1 (cells + mc) (slots + ms) Q (F0 m (pc + 3) ls (v.toList ++ rest))) : W p l e R s m args below meth c H locs cells slots Q (F0 m pc ls st0) := by
  have hF := va_free (wc := wc) hD hS hA isC hC
  intro T hT X
  obtain ⟨v, st₀, t, T', L, h0, X', hL, e1, e2, ⟨⟨v', u, hv, hp, hP1, hD1, hx⟩, hz, hk⟩, sg⟩ := hr T hT X
  cases hv
  rw [h0] at hz hk
  obtain ⟨hPj, hDj⟩ := va_join (H1 := t.heap) (wr := wr) (w1 := w1 u) hP hD isC isR hC hR hn hdis hk hF hP1 hD1
  obtain ⟨t2, a1, b1⟩ := kk v u T'.heap (locs ++ L) hp (by rw [e1]; exact hPj) hDj
    ⟨Nat.le_trans hS.1 (by rw [e1]; exact hz), fun q h1 h2 => by rw [e1, hk q (Nat.lt_of_lt_of_le h1 hS.1) (fun z => h2 (hF q z))]; exact hS.2.1 q h1 h2, fun q hq => by
      rcases List.mem_append.mp hq with h | h
      · exact hS.2.2 q h
      · exact hF _ (hL q h)⟩ (by rw [e1]; exact hx) (by rw [e1]; exact hz) (fun q h1 h2 => by rw [e1]; exact hk q h1 h2) T' rfl X'
  exact ⟨t2, sg t2 a1, b1⟩
/-- the same, of a method that may throw -/
theorem ky_runX {S : Type} {post : Option Value → S → Prop} {w1 : S → va_W} {EX1 : S → Heap → Prop} {px : String → Prop} {wx : va_W} {ws wc wr : va_W}
    (hr : vx_Run p l e R s m args below meth c H locs cells slots mc ms (F0 m pc ls st0) rest (ky_Q G (va_A wc H.size) post w1 EX1 a) (ky_X G (va_A wc H.size) px wx) (va_A wc H.size)) (hP : va_P G.1 kcl ws H) (hD : va_D A ws) (hS : va_S A s.heap H locs) (hA : ∀ q, s.heap.size ≤ q → A q)
    (isC isR : List Nat) (hC : isC.map (fun i => ws[i]?) = wc.map some) (hR : isR.map (fun i => ws[i]?) = wr.map some) (hn : va_nd isR = true) (hdis : ∀ i ∈ isR, i ∉ isC)
    (kx : ∀ (E : String) (ce : Cell) (q9 : Addr) (H1 : Heap) (locs1 : List Loc), px E → va_P G.1 kcl (wr ++ wx) H1 → va_D A (wr ++ wx) → va_S A s.heap H1 locs1 → H.size ≤ H1.size → (∀ q : Nat, q < H.size → ¬ va_A wc H.size q → H1[q]? = H[q]?) → H1[q9]? = some ce → ce.vm = .none → s.vm.findClass E = some ce.cls →
      vx_W p l e R s m args below meth c H1 locs1 (cells + mc) (slots + ms) Q (F0 m pc ls rest) q9)
    (kk : ∀ (v : Option Value) (u : S) (H1 : Heap) (locs1 : List Loc), post v u → va_P G.1 kcl (wr ++ w1 u) H1 → va_D A (wr ++ w1 u) → va_S A s.heap H1 locs1 → EX1 u H1 → H.size ≤ H1.size → (∀ q : Nat, q < H.size → ¬ va_A wc H.size q → H1[q]? = H[q]?) →
      W p l e R s m args below meth c H1 locs1 (cells + mc) (slots + ms) Q (F0 m (pc + 3) ls (v.toList ++ rest))) : W p l e R s m args below meth c H locs cells slots Q (F0 m pc ls st0) := by
  have hF := va_free (wc := wc) hD hS hA isC hC
  intro T hT X
  rcases hr T hT X with ⟨v, st₀, t, T', L, h0, X', hL, e1, e2, ⟨⟨v', u, hv, hp, hP1, hD1, hx⟩, hz, hk⟩, sg⟩ | ⟨q9, st₀, t, T', L, E, ce, h0, X', hL, e1, e2, ⟨hp, hP1, hD1, hz, hk⟩, hc1, hc2, hc3, sg⟩
  · cases hv
    rw [h0] at hz hk
    obtain ⟨hPj, hDj⟩ := va_join (H1 := t.heap) (wr := wr) (w1 := w1 u) hP hD isC isR hC hR hn hdis hk hF hP1 hD1
    obtain ⟨t2, a1, b1⟩ := kk v u T'.heap (locs ++ L) hp (by rw [e1]; exact hPj) hDj
      ⟨Nat.le_trans hS.1 (by rw [e1]; exact hz), fun q h1 h2 => by rw [e1, hk q (Nat.lt_of_lt_of_le h1 hS.1) (fun z => h2 (hF q z))]; exact hS.2.1 q h1 h2, fun q hq => by
        rcases List.mem_append.mp hq with h | h
        · exact hS.2.2 q h
        · exact hF _ (hL q h)⟩ (by rw [e1]; exact hx) (by rw [e1]; exact hz) (fun q h1 h2 => by rw [e1]; exact hk q h1 h2) T' rfl X'
    exact ⟨t2, sg t2 a1, b1⟩
  · rw [h0] at hz hk
    obtain ⟨hPj, hDj⟩ := va_join (H1 := t.heap) (wr := wr) (w1 := wx) hP hD isC isR hC hR hn hdis hk hF hP1 hD1
    obtain ⟨t2, a1, b1⟩ := kx E ce q9 T'.heap (locs ++ L) hp (by rw [e1]; exact hPj) hDj
      ⟨Nat.le_trans hS.1 (by rw [e1]; exact hz), fun q h1 h2 => by rw [e1, hk q (Nat.lt_of_lt_of_le h1 hS.1) (fun z => h2 (hF q z))]; exact hS.2.1 q h1 h2, fun q hq => by
        rcases List.mem_append.mp hq with h | h
        · exact hS.2.2 q h
        · exact hF _ (hL q h)⟩ (by rw [e1]; exact hz) (fun q h1 h2 => by rw [e1]; exact hk q h1 h2) (by rw [e1]; exact hc1) hc2 hc3 T' rfl X'
    exact ⟨t2, sg.trans a1, b1⟩
end KYB
end
section
/-! what the environment gives at any method's entry -/
theorem ky_E.narrow {G : ky_G} {U : State} (hE : ky_E G U) : ∃ b : Nat, (∀ w ∈ lw_tbl, w.before #[Value.ref b] G.2.2 = true) ∧ ∀ w ∈ flatC (Jvm.Cond.and given_1 narrow_1), w.before #[Value.ref b] G.2.2 = true := by
  obtain ⟨b, h1, h2⟩ := hE.2.2.2.2
  exact ⟨b, h1, flat_of_before _ h2⟩
theorem ky_E.lt {G : ky_G} {U : State} (hE : ky_E G U) {A : Nat → Prop} (hfr : ∀ q, A q → ky_fr G q) (a : Nat) (h : a < G.2.2.heap.size) : ¬ A a := fun z => absurd (hfr a z) (Nat.not_le.mpr h)
/-- a class can be cast, anywhere -/
theorem ky_E.cast {G : ky_G} {U : State} (hE : ky_E G U) {C T : String} (h : Cond.castable C T ∈ lw_tbl) (args : Array Value) : (Cond.castable C T).before args U = true := by
  obtain ⟨b, h1, -⟩ := hE.narrow
  exact va_any rfl (va_Nw.warmC hE.2.2.2.1 (va_any (A' := #[]) rfl (h1 _ h)))
def ky_far : Cond → Bool
  | .castable _ _ => true
  | .declares _ => true
  | _ => false
theorem ky_far_ot {w : Cond} (h : ky_far w = true) : vx_ot w = true := by
  cases w <;> first | rfl | (exact absurd h (by decide)) | (simp [ky_far] at h)
theorem ky_E.far {G : ky_G} {U : State} (hE : ky_E G U) {w : Cond} (h : w ∈ lw_tbl) (hw : ky_far w = true) (args : Array Value) : w.before args U = true := by
  cases w <;> first | cases hw | skip
  · obtain ⟨b, h1, -⟩ := hE.narrow
    exact va_any rfl (va_Nw.warmD hE.2.2.2.1 (va_any (A' := #[]) rfl (h1 _ h)))
  · exact hE.cast h args
theorem ky_E.nocast {G : ky_G} {U : State} (hE : ky_E G U) {C T : String} (h : Cond.not (Cond.castable C T) ∈ flatC (Jvm.Cond.and given_1 narrow_1)) : va_Nc C T U := by
  obtain ⟨b, -, h1⟩ := hE.narrow
  obtain ⟨c, t, k1, k2, k3⟩ := va_Nc.of (h1 _ h)
  have hA := hE.2.2.2.1.alike
  exact ⟨c, t, by rw [hA.findClass]; exact k1, by rw [hA.findClass]; exact k2, by rw [hA.assignable]; exact k3⟩
theorem ky_E.zq {G : ky_G} {U : State} (hE : ky_E G U) {A : Nat → Prop} (hfr : ∀ q, A q → ky_fr G q) {C n d : String} (h1 : Cond.laysStatic C n d ∈ lw_tbl) (h2 : Cond.initialized C ∈ lw_tbl) (h3 : Cond.isRef (.static C n d) ∈ flatC (Jvm.Cond.and given_1 narrow_1)) : vx_Zq C n d A U U.heap := by
  obtain ⟨b, k1, k2⟩ := hE.narrow
  have z := vx_Zqof (A := ky_fr G) (k1 _ h1) (k1 _ h2) (k2 _ h3) (fun a h => Nat.not_le.mpr h)
  exact ((z.kept (fun a h _ => hE.2.2.1 a h)).moved hE.2.2.2.1.alike).narrow hfr
/-- a static field of a known value -/
theorem ky_E.z {G : ky_G} {U : State} (hE : ky_E G U) {A : Nat → Prop} (hfr : ∀ q, A q → ky_fr G q) {C n d : String} {v : Value} {t : Term} (h1 : Cond.laysStatic C n d ∈ lw_tbl) (h2 : Cond.initialized C ∈ lw_tbl) (h3 : Cond.eq (.static C n d) t ∈ flatC (Jvm.Cond.and given_1 narrow_1)) (ht : ∀ (a : Array Value) (s : State), t.eval a s none [] s = some v) : va_Z C n d v A U U.heap := by
  obtain ⟨b, k1, k2⟩ := hE.narrow
  have e := k2 _ h3
  obtain ⟨w, e1, e2⟩ := Cond.eq_one (show (Cond.eq (.static C n d) t).holds #[Value.ref b] G.2.2 none G.2.2 [] = true from e)
  rw [ht] at e2
  cases e2
  have z := va_Zof (A := ky_fr G) (k1 _ h1) (k1 _ h2) e1 (fun a h => Nat.not_le.mpr h)
  exact ((z.kept (fun a h _ => hE.2.2.1 a h)).moved hE.2.2.2.1.alike).narrow hfr
/-- a String constant: where it lies -/
theorem ky_E.str {G : ky_G} {U : State} (hE : ky_E G U) {own tx : String} {k : Nat} (h1 : Cond.stringRef own k tx ∈ lw_tbl) (h2 : Cond.exactly (.string own k) "java/lang/String" ∈ flatC (Jvm.Cond.and given_1 narrow_1)) : ∃ a : Nat, vk_R own k tx a U := by
  obtain ⟨b, k1, k2⟩ := hE.narrow
  have e := k2 _ h2
  have hs := k1 _ h1
  obtain ⟨a, c, cA, kA, q1, -⟩ := Cond.exactly_spec (args := #[Value.ref b]) (first := G.2.2) (o := none) (s := G.2.2) (idx := []) (t := .string own k) (cls := "java/lang/String") e
  exact ⟨a, (vk_R.of (A := #[Value.ref b]) hs q1).warm hE.2.2.2.1⟩
/-- a static array that nobody writes -/
theorem ky_E.tab {G : ky_G} {U : State} (hE : ky_E G U) {A : Nat → Prop} (hfr : ∀ q, A q → ky_fr G q) {C n d : String} {ty : FieldType} {N : Nat} {f : Nat → Value} (h1 : Cond.laysStatic C n d ∈ lw_tbl) (h2 : Cond.initialized C ∈ lw_tbl) (hN : N < 2 ^ 31)
    (h3 : Cond.arrayOf (.static C n d) ty ∈ flatC (Jvm.Cond.and given_1 narrow_1)) (h4 : Cond.eq (.length (.static C n d)) (.int (Int32.ofNat N)) ∈ flatC (Jvm.Cond.and given_1 narrow_1))
    (hel : ∀ (a : Array Value) (s : State), (∀ w ∈ flatC (Jvm.Cond.and given_1 narrow_1), w.before a s = true) → ∀ j : Nat, j < N → (Term.elem (.static C n d) (.int (Int32.ofNat j))).eval a s none [] s = some (f j)) :
    ∃ t : Nat, va_Z C n d (.ref t) A U U.heap ∧ va_T ty t N f A U U.heap := by
  obtain ⟨b, k1, k2⟩ := hE.narrow
  obtain ⟨t, e1, hT⟩ := va_Tof (A := ky_fr G) (f := f) hN (k2 _ h3) (va_eqt (k2 _ h4)) (hel _ _ k2) (fun a h => Nat.not_le.mpr h)
  have z := va_Zof (A := ky_fr G) (k1 _ h1) (k1 _ h2) e1 (fun a h => Nat.not_le.mpr h)
  exact ⟨t, ((z.kept (fun a h _ => hE.2.2.1 a h)).moved hE.2.2.2.1.alike).narrow hfr, ((hT.kept (fun a h _ => hE.2.2.1 a h)).moved hE.2.2.2.1.alike).narrow hfr⟩
section KYX
variable {p : Program} {l : Launch} {e : Env} {R : Room} {s : State} {m : MethodId} {args : Array Value} {below : List Frame} {meth : Method} {c : Code} {H : Heap} {locs : List Loc} {cells slots : Nat}
variable {cc : ByteArray} {own : String} {nL : Nat} {ret9 : Option FieldType} {pc : Nat} {ls : Array Slot} {rest : List Value} {mc ms : Nat} {A : Nat → Prop} {G : ky_G} {Qc : Array Value → State → Outcome → State → Prop} {px : String → Prop} {wx ws : va_W}
/-- a new exception of the JDK's, with a text, thrown out of the method -/
theorem ky_throw (F : ky_F p s m meth c own cc nL ret9 args) (hno : ∀ x ∈ c.exceptionTable.toList, False) (hl9 : l.stackTraces = false) (hE : ky_E G s) (hfr : ∀ q, A q → ky_fr G q) {cls text : String} {names : List String} {ik is ic : Nat}
    (hcls : Bundle.fit cls = true) (hnames : ∀ n ∈ names, Bundle.fit n = true) (hk : Cond.classLink own ik cls ∈ ky_B) (hini : Cond.initialized cls ∈ ky_B) (h1 : Cond.stringRef own is text ∈ lw_tbl) (h2 : Cond.exactly (.string own is) "java/lang/String" ∈ flatC (Jvm.Cond.and given_1 narrow_1))
    (hat : ∀ w ∈ vx_atS own ic cls names, w ∈ lw_tbl ∧ (goodWord w || ky_far w) = true)
    (hS : va_S A s.heap H locs) (hsize : ls.size = nL)
    (d0 : decode cc pc = .ok (.new ik, 3)) (d3 : decode cc (pc + 3) = .ok (.dup, 1)) (d4 : decode cc (pc + 4) = .ok (.ldc is, 2)) (d6 : decode cc (pc + 6) = .ok (.invokespecial ic, 3)) (d9 : decode cc (pc + 9) = .ok (.athrow, 1))
    (hRframes : names.length + 3 < R.frames) (hRlocals : (rest.map fun v => v.category).sum + (13 * (names.length + 1) + 43) ≤ R.locals) (hRc : cells + 1 ≤ R.cells ∧ slots + 6 ≤ R.slots) (hmc : cells + 1 ≤ mc ∧ slots + 6 ≤ ms)
    (hP : va_P G.1 kcl wx H) (hD : va_D A wx) (hpx : px cls) : W p l e R s m args below meth c H locs cells slots (vx_MQ below Qc (ky_X G A px wx) args s mc ms A) (F0 m pc ls rest) := by
  obtain ⟨hx, hb, hml, hown, hr, hlocks, hts⟩ := F
  obtain ⟨sa, hstr⟩ := hE.str h1 h2
  have tU : Cond.laysStatic Bundle.tN "UNASSIGNED_STACK" Bundle.steD ∈ lw_tbl := by decide +kernel
  have tN : Cond.laysStatic Bundle.tN "SUPPRESSED_SENTINEL" Bundle.listD ∈ lw_tbl := by decide +kernel
  have ti : Cond.initialized Bundle.tN ∈ lw_tbl := by decide +kernel
  refine vx_throwS hx hb hl9 hown hcls hnames (hts _ hk) (hts _ hini) hstr (fun w hw => ?_) (fun w hw => ?_) (hE.zq hfr tU ti (by decide +kernel)) (hE.zq hfr tN ti (by decide +kernel)) hS (hsize.trans hml.symm) d0 d3 d4 d6 d9 (fun x h => (hno x h).elim) hRframes hRlocals hRc.1 hRc.2 hlocks (fun t ht hz hq => ?_) hS.2.2 hmc.1 hmc.2
  · obtain ⟨h1, h2⟩ := hat w hw
    rcases Bool.or_eq_true _ _ ▸ h2 with h | h
    · exact hts _ (ky_mem h1 h)
    · exact hE.far h1 h args
  · rcases List.mem_cons.mp hw with rfl | hw
    · rfl
    · rcases List.mem_cons.mp hw with rfl | hw
      · rfl
      · obtain ⟨h1, h2⟩ := hat w hw
        rcases Bool.or_eq_true _ _ ▸ h2 with h | h
        · unfold vx_ot
          rw [h, Bool.or_true]
        · exact ky_far_ot h
  · refine ⟨hpx, hP.kept (fun k q hk => hq q.1 (hP k q hk).lt), hD, Nat.le_trans hS.1 hz, fun q h1 h2 => ?_⟩
    rw [hq q (Nat.lt_of_lt_of_le h1 hS.1)]
    exact hS.2.1 q h1 h2
end KYX
end
section
/-! calls: what comes before the call is cut out of the world, what comes back is joined to the rest -/
def ky_b {α β γ : Type} (x : Sum String (α × β)) (k : α → β → Sum String γ) : Sum String γ := match x with | .inl e => .inl e | .inr a => k a.1 a.2
theorem ky_bl {α β γ : Type} {x : Sum String (α × β)} {k : α → β → Sum String γ} {E : String} (h : x = .inl E) : ky_b x k = .inl E := by rw [h]; rfl
theorem ky_br {α β γ : Type} {x : Sum String (α × β)} {k : α → β → Sum String γ} {a : α} {b : β} (h : x = .inr (a, b)) : ky_b x k = k a b := by rw [h]; rfl
theorem ky_pi {β : Type} {f : Int32 × β} {e : Int32} {u : β} (h : f = (e, u)) : some (Value.int e) = some (Value.int f.1) ∧ u = f.2 := by rw [h]; exact ⟨rfl, rfl⟩
theorem ky_pl {β : Type} {f : Int64 × β} {e : Int64} {u : β} (h : f = (e, u)) : some (Value.long e) = some (Value.long f.1) ∧ u = f.2 := by rw [h]; exact ⟨rfl, rfl⟩
theorem ky_pv {β : Type} {f : Unit × β} {e : Unit} {u : β} (h : f = (e, u)) : (none : Option Value) = none ∧ u = f.2 := by rw [h]; exact ⟨rfl, rfl⟩
theorem ky_E.at0 {G : ky_G} {s : State} (hE : ky_E G s) : ∀ U : State, U.heap = s.heap → s.WarmedH U.vm → ky_E G U := by
  intro U hU hW
  obtain ⟨h1, h2, h3, h4, h5⟩ := hE
  exact ⟨va_K.moved hW.alike h1, by rw [hU]; exact h2, fun q hq => by rw [hU]; exact h3 q hq, State.WarmedH.trans h4 hW, h5⟩
/-- a number's object: it doesn't change -/
abbrev ky_It (G : ky_G) (a : Nat) (v : Int32 × Int64) (H : Heap) : Prop := va_P G.1 kcl [(a, .inr (4, [.int v.1, .long v.2]))] H
theorem ky_It.keep {G : ky_G} {a : Nat} {v : Int32 × Int64} {H H1 : Heap} (h : ky_It G a v H) (e : H1[a]? = H[a]?) : ky_It G a v H1 := va_P.kept h (fun k q hk => by
  match k, hk with
  | 0, hk => cases hk; exact e
  | k + 1, hk => simp at hk)
theorem ky_It.low {G : ky_G} {a : Nat} {v : Int32 × Int64} {H : Heap} (h : ky_It G a v H) : a < H.size := (h 0 _ rfl).lt
def ky_P1 (G : ky_G) (As : List Value) (EX : Heap → Prop) : Array Value → State → Prop := fun v U => v = As.toArray ∧ ky_E G U ∧ EX U.heap
theorem ky_P1.blind {G : ky_G} {As : List Value} {EX : Heap → Prop} : FrameBlind (ky_P1 G As EX) := by
  rintro a U g mk ⟨h1, ⟨k1, k2, k3, k4, k5⟩, h6⟩
  exact ⟨h1, ⟨va_K.moved (u := U) (U := U.calling g mk a) (Vm.Alike.refl U.vm) k1, k2, k3, k4, k5⟩, h6⟩
theorem ky_start1 {l : Launch} {y : MethodName} {cc : ByteArray} {maxL : Nat} {ret : Option FieldType} {rm : Room} {As : List Value} {G : ky_G} {EX : Heap → Prop} {v : Option Value}
    (hy : plainName y.cls = true) (hlen : (lg_sl As).length ≤ maxL)
    (body : ∀ (p : Program) (e : Env) (s : State) (m : MethodId) (below : List Frame) (meth : Method) (c : Code), ky_F p s m meth c y.cls cc maxL ret As.toArray → ky_E G s → EX s.heap → ∀ ls : Array Slot, lv_has ls maxL (lv_args 0 As) →
      W p l e rm s m As.toArray below meth c s.heap [] 0 0 (MQ below (ky_Q0 v) As.toArray s 0 0 (fun _ => False)) (F0 m 0 ls [])) :
    Met l y (.code y cc maxL ret :: ky_B) rm (ky_P1 G As EX) (ky_Q0 v) 0 0 (fun _ => False) := by
  refine Met.ofW (cc := cc) (maxL := maxL) (ret := ret) hy rfl ?_
  intro p e s m args below meth c s₁ B hml hv
  obtain ⟨rfl, hE, hX⟩ := hv
  have hts := atoms_spec (ws := .code y cc maxL ret :: ky_B) B.pre
  have F : ky_F p s m meth c y.cls cc maxL ret As.toArray := ⟨B.exec, B.bytes, hml, findClass_of_methodNamed B.named, B.returns, B.notSynchronized, fun w hw => hts w (List.mem_cons_of_mem _ hw)⟩
  have hl := lv_entry As (n := maxL) hlen
  rw [lg_entry_eq]
  exact body p e s m below meth c F hE hX _ hl
theorem ky_pick {ws wc : va_W} {isC : List Nat} (hC : isC.map (fun i => ws[i]?) = wc.map some) {k : Nat} {q : Nat × va_E} (hk : wc[k]? = some q) : ws[(isC[k]?).getD 0]? = some q := by
  have h1 : (isC.map (fun i => ws[i]?))[k]? = some (some q) := by rw [hC, List.getElem?_map, hk]; rfl
  rw [List.getElem?_map] at h1
  cases hi : isC[k]? with
  | none => rw [hi] at h1; cases h1
  | some i => rw [hi] at h1; exact Option.some.inj h1
section KYC
variable {p : Program} {l : Launch} {e : Env} {R : Room} {s : State} {m : MethodId} {args : Array Value} {below : List Frame} {meth : Method} {c : Code} {H : Heap} {locs : List Loc} {cells slots : Nat} {Q : State → Prop}
variable {cc : ByteArray} {own : String} {nL : Nat} {ret9 : Option FieldType} {pc : Nat} {ls : Array Slot} {rest st : List Value} {mc ms : Nat} {A : Nat → Prop} {G : ky_G}
variable {y : MethodName} {bytes : ByteArray} {maxL n index : Nat} {ret : Option FieldType} {rm : Room} {As : List Value} {b : Nat}
/-- a call that reads numbers alone -/
theorem ky_cV1 {EX : Heap → Prop} {v : Value} (F : ky_F p s m meth c own cc nL ret9 args) (hEc : ∀ U : State, U.heap = H → s.WarmedH U.vm → ky_E G U)
    (hM : Met l y (.code y bytes maxL ret :: ky_B) rm (ky_P1 G (.ref b :: As) EX) (ky_Q0 (some v)) 0 0 (fun _ => False)) (w : ky_wV own index y bytes maxL ret n)
    (hR : (rm.cells = 0 ∧ rm.slots = 0) ∧ rm.frames + 1 ≤ R.frames ∧ 8 + (maxL + 11) + rm.locals ≤ R.locals) (hn : As.length = n) (hl : ls.size = nL) (hst : st = As.reverse ++ .ref b :: rest) (hcat : (rest.map fun v => v.category).sum ≤ 8) (hf : cells ≤ R.cells ∧ slots ≤ R.slots)
    (hrc : ∃ cellB : Cell, H[b]? = some cellB ∧ cellB.vm.isStatics = false ∧ s.vm.findClass y.cls = some cellB.cls) (hEX : EX H)
    (hdg : decode cc pc = .ok (.invokevirtual index, 3)) (kk : W p l e R s m args below meth c H locs cells slots Q (F0 m (pc + 3) ls (v :: rest))) : W p l e R s m args below meth c H locs cells slots Q (F0 m pc ls st) := by
  obtain ⟨hx, hb, hml, hown, -, -, hts⟩ := F
  have hr := va_runV (l := l) (e := e) (R := R) (below := below) (meth := meth) (H := H) (locs := locs) (cells := cells) (slots := slots) (mc := 0) (ms := 0) (g := F0 m pc ls st) (rest := rest) (As := As) (b := b) ⟨hx, hb, hml, hown, hts⟩ hM
    (cwV (rm := rm) (ws' := ky_B) n hts w.good rfl hR.1.1 hR.1.2 ⟨rfl, w.2.2.2.2.2.1, w.2.2.2.2.2.2.1, w.2.2.2.2.2.2.2⟩ hR.2) ⟨ky_P1.blind, hrc, fun U hU hW => ⟨rfl, hEc U hU hW, by rw [hU]; exact hEX⟩⟩ rfl hn hl hst (lv_room hcat) hdg hf
  intro T hT X
  obtain ⟨v1, st₀, t, T', L, h0, X', hL, e1, -, ⟨hv, hh⟩, sg⟩ := hr T hT X
  cases hv
  obtain ⟨t2, a1, b1⟩ := kk T' (by rw [e1, hh, h0]) (Stand.forget X' (fun q h => (hL q h).elim))
  exact ⟨t2, sg t2 a1, b1⟩
theorem ky_cVh {S : Type} {EX : Heap → Prop} {post : Option Value → S → Prop} {w1 : S → va_W} {EX1 : S → Heap → Prop} {ws wc wr : va_W} (F : ky_F p s m meth c own cc nL ret9 args) (hEc : ∀ U : State, U.heap = H → s.WarmedH U.vm → ky_E G U) (hfr : ∀ q, A q → ky_fr G q)
    (hM : Met l y (.code y bytes maxL ret :: ky_B) rm (ky_P G (.ref b :: As) wc H.size EX) (ky_Q G (va_A wc H.size) post w1 EX1) mc ms (va_A wc H.size)) (w : ky_wV own index y bytes maxL ret n)
    (hR : (rm.cells = mc ∧ rm.slots = ms) ∧ rm.frames + 1 ≤ R.frames ∧ 8 + (maxL + 11) + rm.locals ≤ R.locals) (hn : As.length = n) (hl : ls.size = nL) (hst : st = As.reverse ++ .ref b :: rest) (hcat : (rest.map fun v => v.category).sum ≤ 8) (hf : cells + mc ≤ R.cells ∧ slots + ms ≤ R.slots)
    (hrc : ∃ cellB : Cell, H[b]? = some cellB ∧ cellB.vm.isStatics = false ∧ s.vm.findClass y.cls = some cellB.cls) (hEX : EX H) (hP : va_P G.1 kcl ws H) (hD : va_D A ws) (hS : va_S A s.heap H locs) (hA : ∀ q, s.heap.size ≤ q → A q)
    (isC isR : List Nat) (hC : isC.map (fun i => ws[i]?) = wc.map some) (hRr : isR.map (fun i => ws[i]?) = wr.map some) (hnC : va_nd isC = true) (hnR : va_nd isR = true) (hdis : ∀ i ∈ isR, i ∉ isC)
    (hdg : decode cc pc = .ok (.invokevirtual index, 3))
    (kk : ∀ (v : Option Value) (u : S) (H1 : Heap) (locs1 : List Loc), post v u → va_P G.1 kcl (wr ++ w1 u) H1 → va_D A (wr ++ w1 u) → va_S A s.heap H1 locs1 → EX1 u H1 → H.size ≤ H1.size → (∀ q : Nat, q < H.size → ¬ va_A wc H.size q → H1[q]? = H[q]?) →
      W p l e R s m args below meth c H1 locs1 (cells + mc) (slots + ms) Q (F0 m (pc + 3) ls (v.toList ++ rest))) : W p l e R s m args below meth c H locs cells slots Q (F0 m pc ls st) := by
  obtain ⟨hx, hb, hml, hown, -, -, hts⟩ := F
  have hPc : va_P G.1 kcl wc H := hP.by (fun k => (isC[k]?).getD 0) (fun k q hk => ky_pick hC hk)
  have hDc : va_D (ky_fr G) wc := (hD.sub isC hnC hC).weaken (fun _ _ _ z => hfr _ z)
  have hr := va_runV (l := l) (e := e) (R := R) (below := below) (meth := meth) (H := H) (locs := locs) (cells := cells) (slots := slots) (mc := mc) (ms := ms) (g := F0 m pc ls st) (rest := rest) (As := As) (b := b) ⟨hx, hb, hml, hown, hts⟩ hM
    (cwV (rm := rm) (ws' := ky_B) n hts w.good rfl hR.1.1 hR.1.2 ⟨rfl, w.2.2.2.2.2.1, w.2.2.2.2.2.2.1, w.2.2.2.2.2.2.2⟩ hR.2) ⟨ky_P.blind, hrc, fun U hU hW => ⟨rfl, hEc U hU hW, by rw [hU], by rw [hU]; exact hPc, hDc, by rw [hU]; exact hEX⟩⟩ rfl hn hl hst (lv_room hcat) hdg hf
  exact ky_run hr hP hD hS hA isC isR hC hRr hnR hdis kk
theorem ky_cSh {S : Type} {EX : Heap → Prop} {post : Option Value → S → Prop} {w1 : S → va_W} {EX1 : S → Heap → Prop} {ws wc wr : va_W} (F : ky_F p s m meth c own cc nL ret9 args) (hEc : ∀ U : State, U.heap = H → s.WarmedH U.vm → ky_E G U) (hfr : ∀ q, A q → ky_fr G q)
    (hM : Met l y (.code y bytes maxL ret :: ky_B) rm (ky_P G (As) wc H.size EX) (ky_Q G (va_A wc H.size) post w1 EX1) mc ms (va_A wc H.size)) (w : ky_wS own index y bytes maxL ret n)
    (hR : (rm.cells = mc ∧ rm.slots = ms) ∧ rm.frames + 1 ≤ R.frames ∧ 8 + (maxL + 11) + rm.locals ≤ R.locals) (hn : As.length = n) (hl : ls.size = nL) (hst : st = As.reverse ++ rest) (hcat : (rest.map fun v => v.category).sum ≤ 8) (hf : cells + mc ≤ R.cells ∧ slots + ms ≤ R.slots)
    (hEX : EX H) (hP : va_P G.1 kcl ws H) (hD : va_D A ws) (hS : va_S A s.heap H locs) (hA : ∀ q, s.heap.size ≤ q → A q)
    (isC isR : List Nat) (hC : isC.map (fun i => ws[i]?) = wc.map some) (hRr : isR.map (fun i => ws[i]?) = wr.map some) (hnC : va_nd isC = true) (hnR : va_nd isR = true) (hdis : ∀ i ∈ isR, i ∉ isC)
    (hdg : decode cc pc = .ok (.invokestatic index, 3))
    (kk : ∀ (v : Option Value) (u : S) (H1 : Heap) (locs1 : List Loc), post v u → va_P G.1 kcl (wr ++ w1 u) H1 → va_D A (wr ++ w1 u) → va_S A s.heap H1 locs1 → EX1 u H1 → H.size ≤ H1.size → (∀ q : Nat, q < H.size → ¬ va_A wc H.size q → H1[q]? = H[q]?) →
      W p l e R s m args below meth c H1 locs1 (cells + mc) (slots + ms) Q (F0 m (pc + 3) ls (v.toList ++ rest))) : W p l e R s m args below meth c H locs cells slots Q (F0 m pc ls st) := by
  obtain ⟨hx, hb, hml, hown, -, -, hts⟩ := F
  have hPc : va_P G.1 kcl wc H := hP.by (fun k => (isC[k]?).getD 0) (fun k q hk => ky_pick hC hk)
  have hDc : va_D (ky_fr G) wc := (hD.sub isC hnC hC).weaken (fun _ _ _ z => hfr _ z)
  have hr := va_runS (l := l) (e := e) (R := R) (below := below) (meth := meth) (H := H) (locs := locs) (cells := cells) (slots := slots) (mc := mc) (ms := ms) (g := F0 m pc ls st) (rest := rest) (As := As) ⟨hx, hb, hml, hown, hts⟩ hM
    (va_cwS (rm := rm) (ws' := ky_B) n hts w.good rfl hR.1.1 hR.1.2 ⟨w.2.2.2.2.1, w.2.2.2.2.2.1, w.2.2.2.2.2.2⟩ hR.2) ⟨ky_P.blind, fun U hU hW => ⟨rfl, hEc U hU hW, by rw [hU], by rw [hU]; exact hPc, hDc, by rw [hU]; exact hEX⟩⟩ rfl hn hl hst (lv_room hcat) hdg hf
  exact ky_run hr hP hD hS hA isC isR hC hRr hnR hdis kk
theorem ky_cIh {S : Type} {EX : Heap → Prop} {post : Option Value → S → Prop} {w1 : S → va_W} {EX1 : S → Heap → Prop} {ws wc wr : va_W} (F : ky_F p s m meth c own cc nL ret9 args) (hEc : ∀ U : State, U.heap = H → s.WarmedH U.vm → ky_E G U) (hfr : ∀ q, A q → ky_fr G q)
    (hM : Met l y (.code y bytes maxL none :: ky_B) rm (ky_P G (.ref b :: As) wc H.size EX) (ky_Q G (va_A wc H.size) post w1 EX1) mc ms (va_A wc H.size)) (w : ky_wI own index y bytes maxL n)
    (hR : (rm.cells = mc ∧ rm.slots = ms) ∧ rm.frames + 1 ≤ R.frames ∧ 8 + (maxL + 11) + rm.locals ≤ R.locals) (hn : As.length = n) (hl : ls.size = nL) (hst : st = As.reverse ++ .ref b :: rest) (hcat : (rest.map fun v => v.category).sum ≤ 8) (hf : cells + mc ≤ R.cells ∧ slots + ms ≤ R.slots)
    (hEX : EX H) (hP : va_P G.1 kcl ws H) (hD : va_D A ws) (hS : va_S A s.heap H locs) (hA : ∀ q, s.heap.size ≤ q → A q)
    (isC isR : List Nat) (hC : isC.map (fun i => ws[i]?) = wc.map some) (hRr : isR.map (fun i => ws[i]?) = wr.map some) (hnC : va_nd isC = true) (hnR : va_nd isR = true) (hdis : ∀ i ∈ isR, i ∉ isC)
    (hdg : decode cc pc = .ok (.invokespecial index, 3))
    (kk : ∀ (v : Option Value) (u : S) (H1 : Heap) (locs1 : List Loc), post v u → va_P G.1 kcl (wr ++ w1 u) H1 → va_D A (wr ++ w1 u) → va_S A s.heap H1 locs1 → EX1 u H1 → H.size ≤ H1.size → (∀ q : Nat, q < H.size → ¬ va_A wc H.size q → H1[q]? = H[q]?) →
      W p l e R s m args below meth c H1 locs1 (cells + mc) (slots + ms) Q (F0 m (pc + 3) ls (v.toList ++ rest))) : W p l e R s m args below meth c H locs cells slots Q (F0 m pc ls st) := by
  obtain ⟨hx, hb, hml, hown, -, -, hts⟩ := F
  have hPc : va_P G.1 kcl wc H := hP.by (fun k => (isC[k]?).getD 0) (fun k q hk => ky_pick hC hk)
  have hDc : va_D (ky_fr G) wc := (hD.sub isC hnC hC).weaken (fun _ _ _ z => hfr _ z)
  have hr := va_runI (l := l) (e := e) (R := R) (below := below) (meth := meth) (H := H) (locs := locs) (cells := cells) (slots := slots) (mc := mc) (ms := ms) (g := F0 m pc ls st) (rest := rest) (As := As) (b := b) ⟨hx, hb, hml, hown, hts⟩ hM
    (cwI (rm := rm) (ws' := ky_B) n hts (ky_in (fun w9 hw9 => (List.mem_cons.mp hw9).elim (fun z => z ▸ w.2.2.2.1) (fun z => z))) rfl hR.1.1 hR.1.2 (hts _ w.2.2.1) (hts _ w.1) (hts _ w.2.1) w.2.2.2.2.1 ⟨w.2.2.2.2.2.1, w.2.2.2.2.2.2.1, w.2.2.2.2.2.2.2⟩ hR.2) ⟨ky_P.blind, fun U hU hW => ⟨rfl, hEc U hU hW, by rw [hU], by rw [hU]; exact hPc, hDc, by rw [hU]; exact hEX⟩⟩ rfl hn hl hst (lv_room hcat) hdg hf
  exact ky_run hr hP hD hS hA isC isR hC hRr hnR hdis kk
theorem ky_cVx {S : Type} {EX : Heap → Prop} {post : Option Value → S → Prop} {w1 : S → va_W} {EX1 : S → Heap → Prop} {px : String → Prop} {wx : va_W} {ws wc wr : va_W} (F : ky_F p s m meth c own cc nL ret9 args) (hEc : ∀ U : State, U.heap = H → s.WarmedH U.vm → ky_E G U) (hfr : ∀ q, A q → ky_fr G q)
    (hM : vx_Met l y (.code y bytes maxL ret :: ky_B) rm (ky_P G (.ref b :: As) wc H.size EX) (ky_Q G (va_A wc H.size) post w1 EX1) (ky_X G (va_A wc H.size) px wx) mc ms (va_A wc H.size)) (w : ky_wV own index y bytes maxL ret n)
    (hR : (rm.cells = mc ∧ rm.slots = ms) ∧ rm.frames + 1 ≤ R.frames ∧ 8 + (maxL + 11) + rm.locals ≤ R.locals) (hn : As.length = n) (hl : ls.size = nL) (hst : st = As.reverse ++ .ref b :: rest) (hcat : (rest.map fun v => v.category).sum ≤ 8) (hf : cells + mc ≤ R.cells ∧ slots + ms ≤ R.slots)
    (hrc : ∃ cellB : Cell, H[b]? = some cellB ∧ cellB.vm.isStatics = false ∧ s.vm.findClass y.cls = some cellB.cls) (hEX : EX H) (hP : va_P G.1 kcl ws H) (hD : va_D A ws) (hS : va_S A s.heap H locs) (hA : ∀ q, s.heap.size ≤ q → A q)
    (isC isR : List Nat) (hC : isC.map (fun i => ws[i]?) = wc.map some) (hRr : isR.map (fun i => ws[i]?) = wr.map some) (hnC : va_nd isC = true) (hnR : va_nd isR = true) (hdis : ∀ i ∈ isR, i ∉ isC)
    (hdg : decode cc pc = .ok (.invokevirtual index, 3))
    (kx : ∀ (E : String) (ce : Cell) (q9 : Addr) (H1 : Heap) (locs1 : List Loc), px E → va_P G.1 kcl (wr ++ wx) H1 → va_D A (wr ++ wx) → va_S A s.heap H1 locs1 → H.size ≤ H1.size → (∀ q : Nat, q < H.size → ¬ va_A wc H.size q → H1[q]? = H[q]?) → H1[q9]? = some ce → ce.vm = .none → s.vm.findClass E = some ce.cls →
      vx_W p l e R s m args below meth c H1 locs1 (cells + mc) (slots + ms) Q (F0 m pc ls rest) q9)
    (kk : ∀ (v : Option Value) (u : S) (H1 : Heap) (locs1 : List Loc), post v u → va_P G.1 kcl (wr ++ w1 u) H1 → va_D A (wr ++ w1 u) → va_S A s.heap H1 locs1 → EX1 u H1 → H.size ≤ H1.size → (∀ q : Nat, q < H.size → ¬ va_A wc H.size q → H1[q]? = H[q]?) →
      W p l e R s m args below meth c H1 locs1 (cells + mc) (slots + ms) Q (F0 m (pc + 3) ls (v.toList ++ rest))) : W p l e R s m args below meth c H locs cells slots Q (F0 m pc ls st) := by
  obtain ⟨hx, hb, hml, hown, -, -, hts⟩ := F
  have hPc : va_P G.1 kcl wc H := hP.by (fun k => (isC[k]?).getD 0) (fun k q hk => ky_pick hC hk)
  have hDc : va_D (ky_fr G) wc := (hD.sub isC hnC hC).weaken (fun _ _ _ z => hfr _ z)
  have hr := vx_runV (l := l) (e := e) (R := R) (below := below) (meth := meth) (H := H) (locs := locs) (cells := cells) (slots := slots) (mc := mc) (ms := ms) (g := F0 m pc ls st) (rest := rest) (As := As) (b := b) ⟨hx, hb, hml, hown, hts⟩ hM
    (cwV (rm := rm) (ws' := ky_B) n hts w.good rfl hR.1.1 hR.1.2 ⟨rfl, w.2.2.2.2.2.1, w.2.2.2.2.2.2.1, w.2.2.2.2.2.2.2⟩ hR.2) ⟨ky_P.blind, hrc, fun U hU hW => ⟨rfl, hEc U hU hW, by rw [hU], by rw [hU]; exact hPc, hDc, by rw [hU]; exact hEX⟩⟩ rfl hn hl hst (lv_room hcat) hdg hf
  exact ky_runX hr hP hD hS hA isC isR hC hRr hnR hdis kx kk
theorem ky_cSx {S : Type} {EX : Heap → Prop} {post : Option Value → S → Prop} {w1 : S → va_W} {EX1 : S → Heap → Prop} {px : String → Prop} {wx : va_W} {ws wc wr : va_W} (F : ky_F p s m meth c own cc nL ret9 args) (hEc : ∀ U : State, U.heap = H → s.WarmedH U.vm → ky_E G U) (hfr : ∀ q, A q → ky_fr G q)
    (hM : vx_Met l y (.code y bytes maxL ret :: ky_B) rm (ky_P G (As) wc H.size EX) (ky_Q G (va_A wc H.size) post w1 EX1) (ky_X G (va_A wc H.size) px wx) mc ms (va_A wc H.size)) (w : ky_wS own index y bytes maxL ret n)
    (hR : (rm.cells = mc ∧ rm.slots = ms) ∧ rm.frames + 1 ≤ R.frames ∧ 8 + (maxL + 11) + rm.locals ≤ R.locals) (hn : As.length = n) (hl : ls.size = nL) (hst : st = As.reverse ++ rest) (hcat : (rest.map fun v => v.category).sum ≤ 8) (hf : cells + mc ≤ R.cells ∧ slots + ms ≤ R.slots)
    (hEX : EX H) (hP : va_P G.1 kcl ws H) (hD : va_D A ws) (hS : va_S A s.heap H locs) (hA : ∀ q, s.heap.size ≤ q → A q)
    (isC isR : List Nat) (hC : isC.map (fun i => ws[i]?) = wc.map some) (hRr : isR.map (fun i => ws[i]?) = wr.map some) (hnC : va_nd isC = true) (hnR : va_nd isR = true) (hdis : ∀ i ∈ isR, i ∉ isC)
    (hdg : decode cc pc = .ok (.invokestatic index, 3))
    (kx : ∀ (E : String) (ce : Cell) (q9 : Addr) (H1 : Heap) (locs1 : List Loc), px E → va_P G.1 kcl (wr ++ wx) H1 → va_D A (wr ++ wx) → va_S A s.heap H1 locs1 → H.size ≤ H1.size → (∀ q : Nat, q < H.size → ¬ va_A wc H.size q → H1[q]? = H[q]?) → H1[q9]? = some ce → ce.vm = .none → s.vm.findClass E = some ce.cls →
      vx_W p l e R s m args below meth c H1 locs1 (cells + mc) (slots + ms) Q (F0 m pc ls rest) q9)
    (kk : ∀ (v : Option Value) (u : S) (H1 : Heap) (locs1 : List Loc), post v u → va_P G.1 kcl (wr ++ w1 u) H1 → va_D A (wr ++ w1 u) → va_S A s.heap H1 locs1 → EX1 u H1 → H.size ≤ H1.size → (∀ q : Nat, q < H.size → ¬ va_A wc H.size q → H1[q]? = H[q]?) →
      W p l e R s m args below meth c H1 locs1 (cells + mc) (slots + ms) Q (F0 m (pc + 3) ls (v.toList ++ rest))) : W p l e R s m args below meth c H locs cells slots Q (F0 m pc ls st) := by
  obtain ⟨hx, hb, hml, hown, -, -, hts⟩ := F
  have hPc : va_P G.1 kcl wc H := hP.by (fun k => (isC[k]?).getD 0) (fun k q hk => ky_pick hC hk)
  have hDc : va_D (ky_fr G) wc := (hD.sub isC hnC hC).weaken (fun _ _ _ z => hfr _ z)
  have hr := vx_runS (l := l) (e := e) (R := R) (below := below) (meth := meth) (H := H) (locs := locs) (cells := cells) (slots := slots) (mc := mc) (ms := ms) (g := F0 m pc ls st) (rest := rest) (As := As) ⟨hx, hb, hml, hown, hts⟩ hM
    (va_cwS (rm := rm) (ws' := ky_B) n hts w.good rfl hR.1.1 hR.1.2 ⟨w.2.2.2.2.1, w.2.2.2.2.2.1, w.2.2.2.2.2.2⟩ hR.2) ⟨ky_P.blind, fun U hU hW => ⟨rfl, hEc U hU hW, by rw [hU], by rw [hU]; exact hPc, hDc, by rw [hU]; exact hEX⟩⟩ rfl hn hl hst (lv_room hcat) hdg hf
  exact ky_runX hr hP hD hS hA isC isR hC hRr hnR hdis kx kk
end KYC
end
section
/-! memberships by place -/
theorem ky_fi {w : Cond} {i : Nat} (h : (flatC (Jvm.Cond.and given_1 narrow_1))[i]? = some w) : w ∈ flatC (Jvm.Cond.and given_1 narrow_1) := List.mem_of_getElem? h
theorem ky_fis {n : Nat} {W : Nat → Cond} (a : Nat) (h : (List.range n).all (fun j => decide ((flatC (Jvm.Cond.and given_1 narrow_1))[a + j]? = some (W j))) = true) : (List.range n).all (fun j => decide (W j ∈ flatC (Jvm.Cond.and given_1 narrow_1))) = true := by
  refine List.all_eq_true.mpr (fun j hj => decide_eq_true ?_)
  exact ky_fi (of_decide_eq_true (List.all_eq_true.mp h j hj))
theorem ky_atQ {L S : List Cond} (hS : ∀ w ∈ S, w ∈ lw_tbl) (h : L.all (fun w => decide (w ∈ S)) = true) (h2 : L.all (fun w => goodWord w || ky_far w) = true) : ∀ w ∈ L, w ∈ lw_tbl ∧ (goodWord w || ky_far w) = true := fun w hw => ⟨hS w (of_decide_eq_true (List.all_eq_true.mp h w hw)), List.all_eq_true.mp h2 w hw⟩
def kf_SF (j : Nat) : Int64 := ([1, 4503599627370495, 1, 9007199254740991, 9007199254740991, 9007199254740991, 9007199254740991, 9007199254740991, 9007199254740991, 4294967295, 5, 4503599627370497] : List Int64).getD j 0
theorem kq_SF {G : ky_G} {U : State} (hE : ky_E G U) {A : Nat → Prop} (hfr : ∀ q, A q → ky_fr G q) : ∃ t : Nat, va_Z "Exactdoubles" "SAMPLE_FACTORS" "[J" (.ref t) A U U.heap ∧ va_T .long t 12 (fun j => .long (kf_SF j)) A U U.heap := by
  refine hE.tab hfr (kc_4 _ (List.mem_of_getElem? (i := 164) rfl)) (kc_1 _ (List.mem_of_getElem? (i := 1) rfl)) (by decide) (ky_fi (i := 218) (by decide +kernel)) (ky_fi (i := 219) (by decide +kernel)) (fun a s hw j hj => va_eqtl (hw _ ?_))
  have h : (List.range 12).all (fun j => decide (Cond.eq (.elem (.static "Exactdoubles" "SAMPLE_FACTORS" "[J") (.int (Int32.ofNat j))) (.long (kf_SF j)) ∈ flatC (Jvm.Cond.and given_1 narrow_1))) = true := ky_fis 220 (by decide +kernel)
  exact of_decide_eq_true (List.all_eq_true.mp h j (List.mem_range.mpr hj))
def kf_SP (j : Nat) : Int32 := ([-1074, -1074, -1022, 971, -53, -54, -1, 0, 10, -1, -1, 0] : List Int32).getD j 0
theorem kq_SP {G : ky_G} {U : State} (hE : ky_E G U) {A : Nat → Prop} (hfr : ∀ q, A q → ky_fr G q) : ∃ t : Nat, va_Z "Exactdoubles" "SAMPLE_POWERS" "[I" (.ref t) A U U.heap ∧ va_T .int t 12 (fun j => .int (kf_SP j)) A U U.heap := by
  refine hE.tab hfr (kc_4 _ (List.mem_of_getElem? (i := 166) rfl)) (kc_1 _ (List.mem_of_getElem? (i := 1) rfl)) (by decide) (ky_fi (i := 233) (by decide +kernel)) (ky_fi (i := 234) (by decide +kernel)) (fun a s hw j hj => va_eqt (hw _ ?_))
  have h : (List.range 12).all (fun j => decide (Cond.eq (.elem (.static "Exactdoubles" "SAMPLE_POWERS" "[I") (.int (Int32.ofNat j))) (.int (kf_SP j)) ∈ flatC (Jvm.Cond.and given_1 narrow_1))) = true := ky_fis 235 (by decide +kernel)
  exact of_decide_eq_true (List.all_eq_true.mp h j (List.mem_range.mpr hj))
end
section
/-! numbers' objects through changes of the heap -/
theorem ky_ro {G : ky_G} {a : Nat} {v : Int32 × Int64} {s : State} {A : Nat → Prop} {H : Heap} {locs : List Loc} (h : ky_It G a v s.heap) (hna : ¬ A a) (hS : va_S A s.heap H locs) : ky_It G a v H := h.keep (hS.2.1 a h.low hna)
theorem ky_It.fr {G : ky_G} {a : Nat} {v : Int32 × Int64} {H H1 : Heap} (h : ky_It G a v H) (hk : ∀ q : Nat, q < H.size → ¬ va_A [] H.size q → H1[q]? = H[q]?) : ky_It G a v H1 :=
  h.keep (hk a h.low (fun z => z.elim (fun ⟨k, e, y⟩ => by simp at y) (fun y => absurd h.low (Nat.not_lt.mpr y))))
theorem ky_fresh {sz q : Nat} (h : va_A [] sz q) : sz ≤ q := h.elim (fun ⟨k, e, y⟩ => by simp at y) id
theorem ky_nfresh {sz a : Nat} (h : a < sz) : ¬ va_A [] sz a := fun z => absurd h (Nat.not_lt.mpr (ky_fresh z))
theorem ky_startI {S : Type} {l : Launch} {y : MethodName} {cc : ByteArray} {maxL : Nat} {ret : Option FieldType} {rm : Room} {As : List Value} {G : ky_G} {wc : va_W} {sz : Nat} {EX : Heap → Prop} {mc ms : Nat} {post : Option Value → S → Prop} {w1 : S → va_W} {EX1 : S → Heap → Prop}
    (hy : plainName y.cls = true) (hlen : (lg_sl As).length ≤ maxL)
    (body : ∀ (p : Program) (e : Env) (s : State) (m : MethodId) (below : List Frame) (meth : Method) (c : Code), meth.name = y.name → ky_F p s m meth c y.cls cc maxL ret As.toArray → ky_E G s → ∀ A : Nat → Prop, A = va_A wc s.heap.size → s.heap.size = sz → (∀ q, s.heap.size ≤ q → A q) → (∀ q, A q → ky_fr G q) →
      va_P G.1 kcl wc s.heap → va_D A wc → va_S A s.heap s.heap [] → EX s.heap → ∀ ls : Array Slot, lv_has ls maxL (lv_args 0 As) →
      W p l e rm s m As.toArray below meth c s.heap [] 0 0 (MQ below (ky_Q G A post w1 EX1) As.toArray s mc ms A) (F0 m 0 ls [])) :
    Met l y (.code y cc maxL ret :: ky_B) rm (ky_P G As wc sz EX) (ky_Q G (va_A wc sz) post w1 EX1) mc ms (va_A wc sz) := by
  refine Met.ofW (cc := cc) (maxL := maxL) (ret := ret) hy rfl ?_
  intro p e s m args below meth c s₁ B hml hv
  obtain ⟨rfl, hE, hsz, hP, hD, hX⟩ := hv
  have hts := atoms_spec (ws := .code y cc maxL ret :: ky_B) B.pre
  have F : ky_F p s m meth c y.cls cc maxL ret As.toArray := ⟨B.exec, B.bytes, hml, findClass_of_methodNamed B.named, B.returns, B.notSynchronized, fun w hw => hts w (List.mem_cons_of_mem _ hw)⟩
  have hl := lv_entry As (n := maxL) hlen
  rw [lg_entry_eq]
  subst hsz
  exact body p e s m below meth c (name_of_methodNamed B.named B.method).1 F hE _ rfl rfl (fun q h => Or.inr h) (fun q h => h.elim (fun ⟨k, ee, z⟩ => hD.2 k _ z) (fun z => Nat.le_trans hE.2.1 z)) hP hD.self va_S.rf hX _ hl
/-- a number's row in an array of them -/
theorem ky_rf {f : Nat → Option Nat} {i a : Nat} (h : f i = some a) : va_rf (f i) = .ref a := by rw [h]; rfl
theorem ky_or {q r b sz n : Nat} (h1 : r = b ∨ sz ≤ r) (h2 : sz ≤ n) (h3 : q = r ∨ n ≤ q) : q = b ∨ sz ≤ q := by
  rcases h3 with rfl | h
  · exact h1
  · exact Or.inr (Nat.le_trans h2 h)
theorem ky_E.nestM {G : ky_G} {U : State} (hE : ky_E G U) {own : String} {i : Nat} {y : MethodName} {host : String} (h : Cond.methodLinkNest own i y host ∈ lw_tbl) : va_Nw (.methodLinkNest own i y host) U := by
  obtain ⟨b, h1, -⟩ := hE.narrow
  exact va_Nw.warmM hE.2.2.2.1 (va_any (A' := #[]) rfl (h1 _ h))
theorem ky_E.nestF {G : ky_G} {U : State} (hE : ky_E G U) {own : String} {i : Nat} {b n d host : String} (h : Cond.fieldLinkNest own i b n d host ∈ lw_tbl) : va_Nw (.fieldLinkNest own i b n d host) U := by
  obtain ⟨b, h1, -⟩ := hE.narrow
  exact va_Nw.warmF hE.2.2.2.1 (va_any (A' := #[]) rfl (h1 _ h))
def ky_wN (own : String) (index : Nat) (y : MethodName) (host : String) (bytes : ByteArray) (maxL : Nat) (ret : Option FieldType) (n : Nat) : Prop :=
  Cond.methodLinkNest own index y host ∈ lw_tbl ∧ Cond.static y ∈ ky_B ∧ Cond.initialized y.cls ∈ ky_B ∧ Cond.code y bytes maxL ret ∈ ky_B ∧ y.cls ≠ "java/lang/invoke/MethodHandle" ∧ y.cls ≠ "java/lang/invoke/VarHandle" ∧ (parseMethodDescriptor y.desc).map (fun d => d.parameters.length) = some n
section KYN
variable {p : Program} {l : Launch} {e : Env} {R : Room} {s : State} {m : MethodId} {args : Array Value} {below : List Frame} {meth : Method} {c : Code} {H : Heap} {locs : List Loc} {cells slots : Nat} {Q : State → Prop}
variable {cc : ByteArray} {own : String} {nL : Nat} {ret9 : Option FieldType} {pc : Nat} {ls : Array Slot} {rest st : List Value} {G : ky_G}
/-- a pure private static method of the class around -/
theorem ky_cN0 {y : MethodName} {host : String} {bytes : ByteArray} {maxL n index : Nat} {ret : Option FieldType} {rm : Room} {As : List Value} {v : Value} (F : ky_F p s m meth c own cc nL ret9 args) (hE : ky_E G s)
    (hM : Met l y (.code y bytes maxL ret :: ky_B) rm (ky_P0 As) (ky_Q0 (some v)) 0 0 (fun _ => False)) (w : ky_wN own index y host bytes maxL ret n)
    (hR : (rm.cells = 0 ∧ rm.slots = 0) ∧ rm.frames + 1 ≤ R.frames ∧ 8 + (maxL + 11) + rm.locals ≤ R.locals) (hn : As.length = n) (hl : ls.size = nL) (hst : st = As.reverse ++ rest) (hcat : (rest.map fun v => v.category).sum ≤ 8) (hf : cells ≤ R.cells ∧ slots ≤ R.slots)
    (hdg : decode cc pc = .ok (.invokestatic index, 3)) (kk : W p l e R s m args below meth c H locs cells slots Q (F0 m (pc + 3) ls (v :: rest))) : W p l e R s m args below meth c H locs cells slots Q (F0 m pc ls st) := by
  obtain ⟨hx, hb, hml, hown, -, -, hts⟩ := F
  have hr := va_runSN (l := l) (e := e) (R := R) (below := below) (meth := meth) (H := H) (locs := locs) (cells := cells) (slots := slots) (mc := 0) (ms := 0) (g := F0 m pc ls st) (rest := rest) (As := As) ⟨hx, hb, hml, hown, hts⟩ hM
    ⟨va_cnB (rm := rm) (ws' := ky_B) n hts (ky_in (fun w9 hw9 => (List.mem_cons.mp hw9).elim (fun z => z ▸ w.2.2.2.1) (fun z => z))) rfl hR.1.1 hR.1.2 (hE.nestM w.1) (hts _ w.2.2.1) ⟨w.2.2.2.2.1, w.2.2.2.2.2.1, w.2.2.2.2.2.2⟩ hR.2, hts _ w.2.1, trivial⟩ ⟨fun _ _ _ _ h => h, fun _ _ _ => rfl⟩ rfl hn hl hst (lv_room hcat) hdg hf
  intro T hT X
  obtain ⟨v1, st₀, t, T', L, h0, X', hL, e1, -, ⟨hv, hh⟩, sg⟩ := hr T hT X
  cases hv
  obtain ⟨t2, a1, b1⟩ := kk T' (by rw [e1, hh, h0]) (Stand.forget X' (fun q h => (hL q h).elim))
  exact ⟨t2, sg t2 a1, b1⟩
end KYN
end
