/-! what is known of the heap, by its cells; what all methods take as given -/
abbrev ky_G : Type := va_G × (Nat → ClassId) × State
def ky_fr (G : ky_G) : Nat → Prop := fun q => G.2.2.heap.size ≤ q
abbrev ky_tys (cy : Nat → ClassId) : List (ClassId × FieldType) := [(cy 0, .byte), (cy 1, .char), (cy 2, .long), (cy 3, .object "ExactdoublesModel$Its"), (cy 4, .array .long), (cy 5, .int)]
/-- what the law's start says -/
def ky_S (S0 : State) : Prop := ∃ b : Nat, (∀ w ∈ lw_tbl, w.before #[Value.ref b] S0 = true) ∧ (Jvm.Cond.and given_1 narrow_1).before #[Value.ref b] S0 = true
def ky_E (G : ky_G) (U : State) : Prop :=
  va_K G.1 kcl (ky_tys G.2.1) U ∧ G.2.2.heap.size ≤ U.heap.size ∧ (∀ q : Nat, q < G.2.2.heap.size → U.heap[q]? = G.2.2.heap[q]?) ∧ G.2.2.WarmedH U.vm ∧ ky_S G.2.2
theorem ky_E.at {G : ky_G} {s : State} {A : Nat → Prop} {H : Heap} {locs : List Loc} (hE : ky_E G s) (hfr : ∀ q, A q → ky_fr G q) (hS : va_S A s.heap H locs) : ∀ U : State, U.heap = H → s.WarmedH U.vm → ky_E G U := by
  intro U hU hW
  obtain ⟨h1, h2, h3, h4, h5⟩ := hE
  refine ⟨va_K.moved hW.alike h1, by rw [hU]; exact Nat.le_trans h2 hS.1, fun q hq => ?_, State.WarmedH.trans h4 hW, h5⟩
  rw [hU, hS.2.1 q (Nat.lt_of_lt_of_le hq h2) (fun z => absurd (hfr q z) (Nat.not_le.mpr hq))]
  exact h3 q hq
def ky_P (G : ky_G) (As : List Value) (wc : va_W) (sz : Nat) (EX : Heap → Prop) : Array Value → State → Prop := fun v U => v = As.toArray ∧ ky_E G U ∧ U.heap.size = sz ∧ va_P G.1 kcl wc U.heap ∧ va_D (ky_fr G) wc ∧ EX U.heap
def ky_Q {S : Type} (G : ky_G) (A : Nat → Prop) (post : Option Value → S → Prop) (w1 : S → va_W) (EX1 : S → Heap → Prop) : Array Value → State → Outcome → State → Prop := fun _ st o t =>
  (∃ (v : Option Value) (u : S), o = .returned v ∧ post v u ∧ va_P G.1 kcl (w1 u) t.heap ∧ va_D A (w1 u) ∧ EX1 u t.heap) ∧ va_F A st t
def ky_X (G : ky_G) (A : Nat → Prop) (px : String → Prop) (wx : va_W) : String → State → State → Prop := fun E st t => px E ∧ va_P G.1 kcl wx t.heap ∧ va_D A wx ∧ va_F A st t
theorem ky_P.blind {G : ky_G} {As : List Value} {wc : va_W} {sz : Nat} {EX : Heap → Prop} : FrameBlind (ky_P G As wc sz EX) := by
  rintro a U g mk ⟨h1, ⟨k1, k2, k3, k4, k5⟩, h3, h4, h5, h6⟩
  exact ⟨h1, ⟨va_K.moved (u := U) (U := U.calling g mk a) (Vm.Alike.refl U.vm) k1, k2, k3, k4, k5⟩, h3, h4, h5, h6⟩
theorem ky_start {S : Type} {l : Launch} {y : MethodName} {cc : ByteArray} {maxL : Nat} {ret : Option FieldType} {rm : Room} {As : List Value} {G : ky_G} {wc : va_W} {sz : Nat} {EX : Heap → Prop} {mc ms : Nat} {post : Option Value → S → Prop} {w1 : S → va_W} {EX1 : S → Heap → Prop}
    (hy : plainName y.cls = true) (hlen : (lg_sl As).length ≤ maxL)
    (body : ∀ (p : Program) (e : Env) (s : State) (m : MethodId) (below : List Frame) (meth : Method) (c : Code), ky_F p s m meth c y.cls cc maxL ret As.toArray → ky_E G s → ∀ A : Nat → Prop, A = va_A wc s.heap.size → s.heap.size = sz → (∀ q, s.heap.size ≤ q → A q) → (∀ q, A q → ky_fr G q) →
      va_P G.1 kcl wc s.heap → va_D A wc → va_S A s.heap s.heap [] → EX s.heap → ∀ ls : Array Slot, lv_has ls maxL (lv_args 0 As) →
      W p l e rm s m As.toArray below meth c s.heap [] 0 0 (MQ below (ky_Q G A post w1 EX1) As.toArray s mc ms A) (F0 m 0 ls [])) :
    Met l y (.code y cc maxL ret :: ky_B) rm (ky_P G As wc sz EX) (ky_Q G (va_A wc sz) post w1 EX1) mc ms (va_A wc sz) := by
  refine Met.ofW (cc := cc) (maxL := maxL) (ret := ret) hy rfl ?_
  intro p e s m args below meth c s₁ B hml hv
  obtain ⟨rfl, hE, hsz, hP, hD, hX⟩ := hv
  have hts := atoms_spec (ws := .code y cc maxL ret :: ky_B) B.pre
  have F : ky_F p s m meth c y.cls cc maxL ret As.toArray := ⟨B.exec, B.bytes, hml, findClass_of_methodNamed B.named, B.returns, B.notSynchronized, fun w hw => hts w (List.mem_cons_of_mem _ hw)⟩
  have hl := lv_entry As (n := maxL) hlen
  rw [lg_entry_eq]
  subst hsz
  exact body p e s m below meth c F hE _ rfl rfl (fun q h => Or.inr h) (fun q h => h.elim (fun ⟨k, ee, z⟩ => hD.2 k _ z) (fun z => Nat.le_trans hE.2.1 z)) hP hD.self va_S.rf hX _ hl
theorem ky_startX {S : Type} {l : Launch} {y : MethodName} {cc : ByteArray} {maxL : Nat} {ret : Option FieldType} {rm : Room} {As : List Value} {G : ky_G} {wc : va_W} {sz : Nat} {EX : Heap → Prop} {mc ms : Nat} {post : Option Value → S → Prop} {w1 : S → va_W} {EX1 : S → Heap → Prop} {px : String → Prop} {wx : va_W}
    (hy : plainName y.cls = true) (hlen : (lg_sl As).length ≤ maxL)
    (body : ∀ (p : Program) (e : Env) (s : State) (m : MethodId) (below : List Frame) (meth : Method) (c : Code), ky_F p s m meth c y.cls cc maxL ret As.toArray → (∀ x ∈ c.exceptionTable.toList, False) → ky_E G s → ∀ A : Nat → Prop, A = va_A wc s.heap.size → s.heap.size = sz → (∀ q, s.heap.size ≤ q → A q) → (∀ q, A q → ky_fr G q) →
      va_P G.1 kcl wc s.heap → va_D A wc → va_S A s.heap s.heap [] → EX s.heap → ∀ ls : Array Slot, lv_has ls maxL (lv_args 0 As) →
      W p l e rm s m As.toArray below meth c s.heap [] 0 0 (vx_MQ below (ky_Q G A post w1 EX1) (ky_X G A px wx) As.toArray s mc ms A) (F0 m 0 ls [])) :
    vx_Met l y (.code y cc maxL ret :: ky_B) rm (ky_P G As wc sz EX) (ky_Q G (va_A wc sz) post w1 EX1) (ky_X G (va_A wc sz) px wx) mc ms (va_A wc sz) := by
  refine vx_ofW (cc := cc) (maxL := maxL) (ret := ret) hy rfl ?_
  intro p e s m args below meth c s₁ B hml hno hv
  obtain ⟨rfl, hE, hsz, hP, hD, hX⟩ := hv
  have hts := atoms_spec (ws := .code y cc maxL ret :: ky_B) B.pre
  have F : ky_F p s m meth c y.cls cc maxL ret As.toArray := ⟨B.exec, B.bytes, hml, findClass_of_methodNamed B.named, B.returns, B.notSynchronized, fun w hw => hts w (List.mem_cons_of_mem _ hw)⟩
  have hl := lv_entry As (n := maxL) hlen
  rw [lg_entry_eq]
  subst hsz
  exact body p e s m below meth c F hno hE _ rfl rfl (fun q h => Or.inr h) (fun q h => h.elim (fun ⟨k, ee, z⟩ => hD.2 k _ z) (fun z => Nat.le_trans hE.2.1 z)) hP hD.self va_S.rf hX _ hl
/-- a virtual method's words at a place that calls it -/
def ky_wV (own : String) (index : Nat) (y : MethodName) (bytes : ByteArray) (maxL : Nat) (ret : Option FieldType) (n : Nat) : Prop :=
  Cond.methodLink own index y ∈ ky_B ∧ Cond.instanceMethod y ∈ ky_B ∧ Cond.selects y.cls y y ∈ ky_B ∧ Cond.initialized y.cls ∈ ky_B ∧ Cond.code y bytes maxL ret ∈ ky_B ∧ y.cls ≠ "java/lang/invoke/MethodHandle" ∧ y.cls ≠ "java/lang/invoke/VarHandle" ∧ (parseMethodDescriptor y.desc).map (fun d => d.parameters.length) = some n
theorem ky_wV.good {own : String} {index : Nat} {y : MethodName} {bytes : ByteArray} {maxL : Nat} {ret : Option FieldType} {n : Nat} (h : ky_wV own index y bytes maxL ret n) : GoodIn ky_B (wsV own index y.cls y (.code y bytes maxL ret :: ky_B)) := by
  obtain ⟨h1, h2, h3, h4, h5, -⟩ := h
  refine ky_in (fun w hw => ?_)
  simp only [wsV, List.mem_append, List.mem_cons, List.not_mem_nil, or_false] at hw
  rcases hw with (rfl | rfl | rfl | rfl) | rfl | hw
  · exact h1
  · exact h2
  · exact h3
  · exact h4
  · exact h5
  · exact hw
/-- a constructor's words -/
def ky_wI (own : String) (index : Nat) (y : MethodName) (bytes : ByteArray) (maxL : Nat) (n : Nat) : Prop :=
  Cond.methodLink own index y ∈ ky_B ∧ Cond.instanceMethod y ∈ ky_B ∧ Cond.initialized y.cls ∈ ky_B ∧ Cond.code y bytes maxL none ∈ ky_B ∧ y.name = "<init>" ∧ y.cls ≠ "java/lang/invoke/MethodHandle" ∧ y.cls ≠ "java/lang/invoke/VarHandle" ∧ (parseMethodDescriptor y.desc).map (fun d => d.parameters.length) = some n
section KYB
variable {p : Program} {l : Launch} {e : Env} {R : Room} {s : State} {m : MethodId} {args : Array Value} {below : List Frame} {meth : Method} {c : Code} {H : Heap} {locs : List Loc} {cells slots : Nat} {Q : State → Prop}
variable {cc : ByteArray} {own : String} {nL : Nat} {ret9 : Option FieldType} {pc : Nat} {ls : Array Slot} {rest st0 : List Value} {mc ms : Nat} {a : Array Value} {A : Nat → Prop} {G : ky_G}
theorem ky_run {S : Type} {post : Option Value → S → Prop} {w1 : S → va_W} {EX1 : S → Heap → Prop} {ws wc wr : va_W}
    (hr : va_Run p l e R s m args below meth c H locs cells slots mc ms (F0 m pc ls st0) rest (ky_Q G (va_A wc H.size) post w1 EX1 a) (va_A wc H.size)) (hP : va_P G.1 kcl ws H) (hD : va_D A ws) (hS : va_S A s.heap H locs) (hA : ∀ q, s.heap.size ≤ q → A q)
    (isC isR : List Nat) (hC : isC.map (fun i => ws[i]?) = wc.map some) (hR : isR.map (fun i => ws[i]?) = wr.map some) (hn : va_nd isR = true) (hdis : ∀ i ∈ isR, i ∉ isC)
    (kk : ∀ (v : Option Value) (u : S) (H1 : Heap) (locs1 : List Loc), post v u → va_P G.1 kcl (wr ++ w1 u) H1 → va_D A (wr ++ w1 u) → va_S A s.heap H1 locs1 → EX1 u H1 → H.size ≤ H1.size → (∀ q : Nat, q < H.size → ¬ va_A wc H.size q → H1[q]? = H[q]?) →
      W p l e R s m args below meth c H1 locs1 (cells + mc) (slots + ms) Q (F0 m (pc + 3) ls (v.toList ++ rest))) : W p l e R s m args below meth c H locs cells slots Q (F0 m pc ls st0) := by
  have hF := va_free (wc := wc) hD hS hA isC hC
  intro T hT X
  obtain ⟨v, st₀, t, T', L, h0, X', hL, e1, e2, ⟨⟨v', u, hv, hp, hP1, hD1, hx⟩, hz, hk⟩, sg⟩ := hr T hT X
  cases hv
  rw [h0] at hz hk
  obtain ⟨hPj, hDj⟩ := va_join (H1 := t.heap) (wr := wr) (w1 := w1 u) hP hD isC isR hC hR hn hdis hk hF hP1 hD1
  obtain ⟨t2, a1, b1⟩ := kk v u T'.heap (locs ++ L) hp (by rw [e1]; exact hPj) hDj
    ⟨Nat.le_trans hS.1 (by rw [e1]; exact hz), fun q h1 h2 => by rw [e1, hk q (Nat.lt_of_lt_of_le h1 hS.1) (fun z => h2 (hF q z))]; exact hS.2.1 q h1 h2, fun q hq => by
      rcases List.mem_append.mp hq with h | h
      · exact hS.2.2 q h
      · exact hF _ (hL q h)⟩ (by rw [e1]; exact hx) (by rw [e1]; exact hz) (fun q h1 h2 => by rw [e1]; exact hk q h1 h2) T' rfl X'
  exact ⟨t2, sg t2 a1, b1⟩
/-- the same, of a method that may throw -/
theorem ky_runX {S : Type} {post : Option Value → S → Prop} {w1 : S → va_W} {EX1 : S → Heap → Prop} {px : String → Prop} {wx : va_W} {ws wc wr : va_W}
    (hr : vx_Run p l e R s m args below meth c H locs cells slots mc ms (F0 m pc ls st0) rest (ky_Q G (va_A wc H.size) post w1 EX1 a) (ky_X G (va_A wc H.size) px wx) (va_A wc H.size)) (hP : va_P G.1 kcl ws H) (hD : va_D A ws) (hS : va_S A s.heap H locs) (hA : ∀ q, s.heap.size ≤ q → A q)
    (isC isR : List Nat) (hC : isC.map (fun i => ws[i]?) = wc.map some) (hR : isR.map (fun i => ws[i]?) = wr.map some) (hn : va_nd isR = true) (hdis : ∀ i ∈ isR, i ∉ isC)
    (kx : ∀ (E : String) (ce : Cell) (q9 : Addr) (H1 : Heap) (locs1 : List Loc), px E → va_P G.1 kcl (wr ++ wx) H1 → va_D A (wr ++ wx) → va_S A s.heap H1 locs1 → H.size ≤ H1.size → (∀ q : Nat, q < H.size → ¬ va_A wc H.size q → H1[q]? = H[q]?) → H1[q9]? = some ce → ce.vm = .none → s.vm.findClass E = some ce.cls →
      vx_W p l e R s m args below meth c H1 locs1 (cells + mc) (slots + ms) Q (F0 m pc ls rest) q9)
    (kk : ∀ (v : Option Value) (u : S) (H1 : Heap) (locs1 : List Loc), post v u → va_P G.1 kcl (wr ++ w1 u) H1 → va_D A (wr ++ w1 u) → va_S A s.heap H1 locs1 → EX1 u H1 → H.size ≤ H1.size → (∀ q : Nat, q < H.size → ¬ va_A wc H.size q → H1[q]? = H[q]?) →
      W p l e R s m args below meth c H1 locs1 (cells + mc) (slots + ms) Q (F0 m (pc + 3) ls (v.toList ++ rest))) : W p l e R s m args below meth c H locs cells slots Q (F0 m pc ls st0) := by
  have hF := va_free (wc := wc) hD hS hA isC hC
  intro T hT X
  rcases hr T hT X with ⟨v, st₀, t, T', L, h0, X', hL, e1, e2, ⟨⟨v', u, hv, hp, hP1, hD1, hx⟩, hz, hk⟩, sg⟩ | ⟨q9, st₀, t, T', L, E, ce, h0, X', hL, e1, e2, ⟨hp, hP1, hD1, hz, hk⟩, hc1, hc2, hc3, sg⟩
  · cases hv
    rw [h0] at hz hk
    obtain ⟨hPj, hDj⟩ := va_join (H1 := t.heap) (wr := wr) (w1 := w1 u) hP hD isC isR hC hR hn hdis hk hF hP1 hD1
    obtain ⟨t2, a1, b1⟩ := kk v u T'.heap (locs ++ L) hp (by rw [e1]; exact hPj) hDj
      ⟨Nat.le_trans hS.1 (by rw [e1]; exact hz), fun q h1 h2 => by rw [e1, hk q (Nat.lt_of_lt_of_le h1 hS.1) (fun z => h2 (hF q z))]; exact hS.2.1 q h1 h2, fun q hq => by
        rcases List.mem_append.mp hq with h | h
        · exact hS.2.2 q h
        · exact hF _ (hL q h)⟩ (by rw [e1]; exact hx) (by rw [e1]; exact hz) (fun q h1 h2 => by rw [e1]; exact hk q h1 h2) T' rfl X'
    exact ⟨t2, sg t2 a1, b1⟩
  · rw [h0] at hz hk
    obtain ⟨hPj, hDj⟩ := va_join (H1 := t.heap) (wr := wr) (w1 := wx) hP hD isC isR hC hR hn hdis hk hF hP1 hD1
    obtain ⟨t2, a1, b1⟩ := kx E ce q9 T'.heap (locs ++ L) hp (by rw [e1]; exact hPj) hDj
      ⟨Nat.le_trans hS.1 (by rw [e1]; exact hz), fun q h1 h2 => by rw [e1, hk q (Nat.lt_of_lt_of_le h1 hS.1) (fun z => h2 (hF q z))]; exact hS.2.1 q h1 h2, fun q hq => by
        rcases List.mem_append.mp hq with h | h
        · exact hS.2.2 q h
        · exact hF _ (hL q h)⟩ (by rw [e1]; exact hz) (fun q h1 h2 => by rw [e1]; exact hk q h1 h2) (by rw [e1]; exact hc1) hc2 hc3 T' rfl X'
    exact ⟨t2, sg.trans a1, b1⟩
end KYB
