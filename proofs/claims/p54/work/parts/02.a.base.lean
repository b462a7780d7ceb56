/-! words that are kept over calls: all good ones of the tables -/
def ky_B : List Cond := lw_tbl.filter goodWord
theorem ky_mem {w : Cond} (h : w ∈ lw_tbl) (hg : goodWord w = true) : w ∈ ky_B := List.mem_filter.mpr ⟨h, hg⟩
theorem ky_good : ∀ w ∈ ky_B, goodWord w = true := fun _ h => (List.mem_filter.mp h).2
theorem ky_sub : ∀ w ∈ ky_B, w ∈ lw_tbl := fun _ h => (List.mem_filter.mp h).1
theorem ky_in {ws : List Cond} (h : ∀ w ∈ ws, w ∈ ky_B) : GoodIn ky_B ws := fun w hw => ⟨h w hw, good_of_word (ky_good w (h w hw))⟩
/-! what holds at a method's entry, and at each of its instructions -/
def ky_F (p : Program) (s : State) (m : MethodId) (meth : Method) (c : Code) (own : String) (cc : ByteArray) (maxL : Nat) (ret : Option FieldType) (args : Array Value) : Prop :=
  p.tables.exec = Jvm.exec ∧ c.code = cc ∧ c.maxLocals = maxL ∧ s.vm.findClass own = some m.cls ∧ meth.sig.returnType = ret ∧ meth.locks = false ∧ ∀ w ∈ ky_B, w.before args s = true
/-! pure methods: nothing of the heap is read or written -/
def ky_P0 (As : List Value) : Array Value → State → Prop := fun v _ => v = As.toArray
def ky_Q0 (v : Option Value) : Array Value → State → Outcome → State → Prop := fun _ st o t => o = .returned v ∧ t.heap = st.heap
theorem ky_start0 {l : Launch} {y : MethodName} {cc : ByteArray} {maxL : Nat} {ret : Option FieldType} {rm : Room} {As : List Value} {v : Option Value} (hy : plainName y.cls = true) (hlen : (lg_sl As).length ≤ maxL)
    (body : ∀ (p : Program) (e : Env) (s : State) (m : MethodId) (below : List Frame) (meth : Method) (c : Code), ky_F p s m meth c y.cls cc maxL ret As.toArray → ∀ ls : Array Slot, lv_has ls maxL (lv_args 0 As) →
      W p l e rm s m As.toArray below meth c s.heap [] 0 0 (MQ below (ky_Q0 v) As.toArray s 0 0 (fun _ => False)) (F0 m 0 ls [])) :
    Met l y (.code y cc maxL ret :: ky_B) rm (ky_P0 As) (ky_Q0 v) 0 0 (fun _ => False) := by
  refine Met.ofW (cc := cc) (maxL := maxL) (ret := ret) hy rfl ?_
  intro p e s m args below meth c s₁ B hml hv
  obtain rfl := hv
  have hts := atoms_spec (ws := .code y cc maxL ret :: ky_B) B.pre
  have F : ky_F p s m meth c y.cls cc maxL ret As.toArray := ⟨B.exec, B.bytes, hml, findClass_of_methodNamed B.named, B.returns, B.notSynchronized, fun w hw => hts w (List.mem_cons_of_mem _ hw)⟩
  have hl := lv_entry As (n := maxL) hlen
  rw [lg_entry_eq]
  exact body p e s m below meth c F _ hl
/-- a static method's words at a place that calls it -/
def ky_wS (own : String) (index : Nat) (y : MethodName) (bytes : ByteArray) (maxL : Nat) (ret : Option FieldType) (n : Nat) : Prop :=
  Cond.methodLink own index y ∈ ky_B ∧ Cond.static y ∈ ky_B ∧ Cond.initialized y.cls ∈ ky_B ∧ Cond.code y bytes maxL ret ∈ ky_B ∧ y.cls ≠ "java/lang/invoke/MethodHandle" ∧ y.cls ≠ "java/lang/invoke/VarHandle" ∧ (parseMethodDescriptor y.desc).map (fun d => d.parameters.length) = some n
theorem ky_wS.good {own : String} {index : Nat} {y : MethodName} {bytes : ByteArray} {maxL : Nat} {ret : Option FieldType} {n : Nat} (h : ky_wS own index y bytes maxL ret n) : GoodIn ky_B (va_wsS own index y (.code y bytes maxL ret :: ky_B)) := by
  obtain ⟨h1, h2, h3, h4, -⟩ := h
  refine ky_in (fun w hw => ?_)
  simp only [va_wsS, List.mem_append, List.mem_cons, List.not_mem_nil, or_false] at hw
  rcases hw with (rfl | rfl | rfl) | rfl | hw
  · exact h1
  · exact h2
  · exact h3
  · exact h4
  · exact hw
section KYA
variable {p : Program} {l : Launch} {e : Env} {R : Room} {s : State} {m : MethodId} {args : Array Value} {below : List Frame} {meth : Method} {c : Code} {H : Heap} {locs : List Loc} {cells slots : Nat} {Q : State → Prop}
variable {cc : ByteArray} {own : String} {nL : Nat} {ret9 : Option FieldType} {pc : Nat} {ls : Array Slot} {rest st : List Value}
/-- a call of a pure static method -/
theorem ky_cS0 {y : MethodName} {bytes : ByteArray} {maxL n index : Nat} {ret : Option FieldType} {rm : Room} {As : List Value} {v : Value} (F : ky_F p s m meth c own cc nL ret9 args)
    (hM : Met l y (.code y bytes maxL ret :: ky_B) rm (ky_P0 As) (ky_Q0 (some v)) 0 0 (fun _ => False)) (w : ky_wS own index y bytes maxL ret n)
    (hR : (rm.cells = 0 ∧ rm.slots = 0) ∧ rm.frames + 1 ≤ R.frames ∧ 8 + (maxL + 11) + rm.locals ≤ R.locals) (hn : As.length = n) (hl : ls.size = nL) (hst : st = As.reverse ++ rest) (hcat : (rest.map fun v => v.category).sum ≤ 8) (hf : cells ≤ R.cells ∧ slots ≤ R.slots)
    (hdg : decode cc pc = .ok (.invokestatic index, 3)) (kk : W p l e R s m args below meth c H locs cells slots Q (F0 m (pc + 3) ls (v :: rest))) : W p l e R s m args below meth c H locs cells slots Q (F0 m pc ls st) := by
  obtain ⟨hx, hb, hml, hown, -, -, hts⟩ := F
  have hr := va_runS (l := l) (e := e) (R := R) (below := below) (meth := meth) (H := H) (locs := locs) (cells := cells) (slots := slots) (mc := 0) (ms := 0) (g := F0 m pc ls st) (rest := rest) (As := As) ⟨hx, hb, hml, hown, hts⟩ hM
    (va_cwS (rm := rm) (ws' := ky_B) n hts w.good rfl hR.1.1 hR.1.2 ⟨w.2.2.2.2.1, w.2.2.2.2.2.1, w.2.2.2.2.2.2⟩ hR.2) ⟨fun _ _ _ _ h => h, fun _ _ _ => rfl⟩ rfl hn hl hst (lv_room hcat) hdg hf
  intro T hT X
  obtain ⟨v1, st₀, t, T', L, h0, X', hL, e1, -, ⟨hv, hh⟩, sg⟩ := hr T hT X
  cases hv
  obtain ⟨t2, a1, b1⟩ := kk T' (by rw [e1, hh, h0]) (Stand.forget X' (fun q h => (hL q h).elim))
  exact ⟨t2, sg t2 a1, b1⟩
end KYA
theorem ky_nil {free : Addr → Prop} : ∀ q ∈ ([] : List Loc), free q.base := fun _ h => by cases h
/-! shifts, as the machine has them -/
def jlushr (x : Int64) (y : Int32) : Int64 := (x.toUInt64 >>> (y.toInt64.toUInt64 &&& Int64.toUInt64 63)).toInt64
def jlshl (x : Int64) (y : Int32) : Int64 := x <<< (y.toInt64 &&& 63)
def jlshr (x : Int64) (y : Int32) : Int64 := x >>> (y.toInt64 &&& 63)
def jiushr (x y : Int32) : Int32 := (x.toUInt32 >>> (y.toUInt32 &&& Int32.toUInt32 31)).toInt32
theorem ky_ne {x : Int32} {k : Int} {v : Int32} (hv : v.toInt = k) (h : ¬ x = v) : x.toInt ≠ k := fun z => h (Int32.toInt_inj.mp (z.trans hv.symm))
theorem ky_out3 {x : Int32} (h0 : ¬ x = 0) (h1 : ¬ x = 1) (h2 : ¬ x = 2) : x.toInt < 0 ∨ 2 < x.toInt := by
  have a0 := ky_ne (k := 0) (by decide) h0
  have a1 := ky_ne (k := 1) (by decide) h1
  have a2 := ky_ne (k := 2) (by decide) h2
  omega
theorem ky_nz {x : Int32} (h : x = 0 ∨ x = 1) : narrow .boolean (.int x) = .int x := by
  rcases h with rfl | rfl <;> decide
theorem ky_it {c A B : Prop} [Decidable c] (h : c) (k : if c then A else B) : A := by rwa [if_pos h] at k
theorem ky_if {c A B : Prop} [Decidable c] (h : ¬ c) (k : if c then A else B) : B := by rwa [if_neg h] at k
