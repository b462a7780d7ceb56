/-! calls of the JDK's builders: methods that a class has from the one above it -/
theorem ky_selP {C : String} {y : MethodName} {s : State} {args : Array Value} {n : Nat} (hy : y.cls ≠ "java/lang/invoke/MethodHandle" ∧ y.cls ≠ "java/lang/invoke/VarHandle") (hins : (Cond.instantiable C n).before args s = true) (hpriv : (Cond.privateMethod y).before args s = true) (hinst : (Cond.instanceMethod y).before args s = true) (hsup : (Cond.superclass C y.cls).before args s = true) {z : MethodName} (hz : (Cond.selects C z z).before args s = true) (hzy : z.cls = y.cls) : (Cond.selects C y y).before args s = true := by
  obtain ⟨c, k, hc, hk, -, hniab, -, -⟩ := Cond.instantiable_spec hins
  obtain ⟨mk, methM, hnamed, hmethM, -, -⟩ := Cond.instanceMethod_spec hinst
  have hfound : s.methodFound? y.cls y.name y.desc = some mk := State.methodFound?_of_named hnamed hy
  obtain ⟨p, k', kp, h1, h2, h3, h4, h5, h6, h7⟩ := Cond.superclass_spec hc hsup
  have hcls : mk.cls = p := Option.some.inj ((findClass_of_methodNamed hnamed).symm.trans h1)
  have hsel : selectMethod {} s.vm c mk = .method mk := selectMethod_private hmethM (Cond.privateMethod_at hpriv mk methM hnamed hmethM)
  obtain ⟨c2, r2, m2, q1, q2, q3, q4, kP, hkP, hkPi⟩ := Cond.selects_spec hz
  have e2 : m2.cls = p := Option.some.inj ((findClass_of_methodNamed q3).symm.trans (by rw [hzy]; exact h1))
  have e3 : kP = kp := Option.some.inj (hkP.symm.trans (by rw [e2]; exact h3))
  subst e3
  simp only [Cond.before, Cond.holds, Cond.value, hc, hfound, hnamed, hsel, hcls, h3]
  simp; exact hkPi
theorem ky_E.selP {G : ky_G} {U : State} (hE : ky_E G U) {C : String} {y z : MethodName} {n : Nat} (hy : y.cls ≠ "java/lang/invoke/MethodHandle" ∧ y.cls ≠ "java/lang/invoke/VarHandle") (h1 : Cond.instantiable C n ∈ lw_tbl) (h2 : Cond.privateMethod y ∈ lw_tbl) (h3 : Cond.instanceMethod y ∈ lw_tbl) (h4 : Cond.superclass C y.cls ∈ lw_tbl) (h5 : Cond.selects C z z ∈ lw_tbl) (hzy : z.cls = y.cls) (args : Array Value) : (Cond.selects C y y).before args U = true := by
  obtain ⟨b, k1, -⟩ := hE.narrow
  exact word_at hE.2.2.2.1 (good_of_word rfl) (ky_selP hy (k1 _ h1) (k1 _ h2) (k1 _ h3) (k1 _ h4) (k1 _ h5) hzy)
/-- words at a call of a method x, named at the class above, that y is for an object of C -/
def ky_wO (own : String) (index : Nat) (C : String) (x y : MethodName) (b0 : ByteArray) (m0 : Nat) (r0 : Option FieldType) (bytes : ByteArray) (maxL : Nat) (ret : Option FieldType) (n : Nat) : Prop :=
  Cond.methodLink own index x ∈ ky_B ∧ Cond.sameMethod x.cls x.cls x.name x.desc ∈ ky_B ∧ Cond.instanceMethod x ∈ ky_B ∧ Cond.code x b0 m0 r0 ∈ ky_B ∧ Cond.selects C x y ∈ ky_B ∧ Cond.instanceMethod y ∈ ky_B ∧ Cond.initialized y.cls ∈ ky_B ∧ Cond.code y bytes maxL ret ∈ ky_B ∧ (x.cls ≠ "java/lang/invoke/MethodHandle" ∧ x.cls ≠ "java/lang/invoke/VarHandle") ∧ (parseMethodDescriptor x.desc).map (fun d => d.parameters.length) = some n
/-- words at a call of a private method of the class above -/
def ky_wP (own : String) (index : Nat) (C : String) (n0 : Nat) (z y : MethodName) (bytes : ByteArray) (maxL : Nat) (ret : Option FieldType) (n : Nat) : Prop :=
  Cond.methodLink own index y ∈ ky_B ∧ Cond.sameMethod y.cls y.cls y.name y.desc ∈ ky_B ∧ Cond.instantiable C n0 ∈ ky_B ∧ Cond.privateMethod y ∈ lw_tbl ∧ Cond.superclass C y.cls ∈ ky_B ∧ Cond.instanceMethod y ∈ ky_B ∧ Cond.initialized y.cls ∈ ky_B ∧ Cond.code y bytes maxL ret ∈ ky_B ∧ Cond.selects C z z ∈ ky_B ∧ z.cls = y.cls ∧ (y.cls ≠ "java/lang/invoke/MethodHandle" ∧ y.cls ≠ "java/lang/invoke/VarHandle") ∧ (parseMethodDescriptor y.desc).map (fun d => d.parameters.length) = some n
/-- words at a call of the class above's own method, by its name -/
def ky_wSU (own : String) (index : Nat) (y : MethodName) (bytes : ByteArray) (maxL : Nat) (ret : Option FieldType) (n : Nat) : Prop :=
  Cond.methodLink own index y ∈ ky_B ∧ Cond.sameMethod y.cls y.cls y.name y.desc ∈ ky_B ∧ Cond.superclass own y.cls ∈ ky_B ∧ Cond.instanceMethod y ∈ ky_B ∧ Cond.initialized y.cls ∈ ky_B ∧ Cond.code y bytes maxL ret ∈ ky_B ∧ y.name ≠ "<init>" ∧ (parseMethodDescriptor y.desc).map (fun d => d.parameters.length) = some n
theorem ky_wSU.good {own : String} {index : Nat} {y : MethodName} {bytes : ByteArray} {maxL : Nat} {ret : Option FieldType} {n : Nat} (h : ky_wSU own index y bytes maxL ret n) : GoodIn ky_B (va_wsSU own index y (.code y bytes maxL ret :: ky_B)) := by
  obtain ⟨h1, h2, h3, h4, h5, h6, -⟩ := h
  refine ky_in (fun w hw => ?_)
  simp only [va_wsSU, List.mem_append, List.mem_cons, List.not_mem_nil, or_false] at hw
  rcases hw with (rfl | rfl | rfl | rfl | rfl) | rfl | hw
  · exact h1
  · exact h2
  · exact h3
  · exact h4
  · exact h5
  · exact h6
  · exact hw
section KYU
variable {p : Program} {l : Launch} {e : Env} {R : Room} {s : State} {m : MethodId} {args : Array Value} {below : List Frame} {meth : Method} {c : Code} {H : Heap} {locs : List Loc} {cells slots : Nat} {Q : State → Prop}
variable {cc : ByteArray} {own : String} {nL : Nat} {ret9 : Option FieldType} {pc : Nat} {ls : Array Slot} {rest st : List Value} {mc ms : Nat} {A : Nat → Prop} {G : ky_G}
variable {y : MethodName} {bytes : ByteArray} {maxL n index : Nat} {ret : Option FieldType} {rm : Room} {As : List Value} {b : Nat}
theorem ky_wO.cu {C : String} {x : MethodName} {b0 : ByteArray} {m0 : Nat} {r0 : Option FieldType} (hts : ∀ w ∈ ky_B, w.before args s = true) (h : ky_wO own index C x y b0 m0 r0 bytes maxL ret n) (hR : (rm.cells = mc ∧ rm.slots = ms) ∧ rm.frames + 1 ≤ R.frames ∧ 8 + (maxL + 11) + rm.locals ≤ R.locals) : va_CU R s args own C x.cls index x y bytes maxL ret (.code y bytes maxL ret :: ky_B) rm mc ms n := by
  obtain ⟨h1, h2, h3, h4, h5, h6, h7, h8, h9, h10⟩ := h
  refine ⟨⟨hR.1.1, hR.1.2, hR.2.1, hR.2.2, pay_in hts (ky_in (fun w9 hw9 => (List.mem_cons.mp hw9).elim (fun z => z ▸ h8) (fun z => z))), List.mem_cons_self⟩, hts _ h8, hts _ h7, h9, fun sig h => ?_, hts _ h1, hts _ h2, va_Decl.of (hts _ h3) (hts _ h4), hts _ h5, hts _ h6⟩
  rw [h] at h10
  exact (Option.some.inj h10).symm
theorem ky_wP.cu {C : String} {n0 : Nat} {z : MethodName} (hE : ky_E G s) (hts : ∀ w ∈ ky_B, w.before args s = true) (h : ky_wP own index C n0 z y bytes maxL ret n) (hR : (rm.cells = mc ∧ rm.slots = ms) ∧ rm.frames + 1 ≤ R.frames ∧ 8 + (maxL + 11) + rm.locals ≤ R.locals) : va_CU R s args own C y.cls index y y bytes maxL ret (.code y bytes maxL ret :: ky_B) rm mc ms n := by
  obtain ⟨h1, h2, h3, h4, h5, h6, h7, h8, hz, hzy, h9, h10⟩ := h
  refine ⟨⟨hR.1.1, hR.1.2, hR.2.1, hR.2.2, pay_in hts (ky_in (fun w9 hw9 => (List.mem_cons.mp hw9).elim (fun z => z ▸ h8) (fun z => z))), List.mem_cons_self⟩, hts _ h8, hts _ h7, h9, fun sig h => ?_, hts _ h1, hts _ h2, va_Decl.of (hts _ h6) (hts _ h8), hE.selP h9 (ky_sub _ h3) h4 (ky_sub _ h6) (ky_sub _ h5) (ky_sub _ hz) hzy args, hts _ h6⟩
  rw [h] at h10
  exact (Option.some.inj h10).symm
theorem ky_cUh {S : Type} {EX : Heap → Prop} {post : Option Value → S → Prop} {w1 : S → va_W} {EX1 : S → Heap → Prop} {ws wc wr : va_W} {C owner : String} {x : MethodName} (F : ky_F p s m meth c own cc nL ret9 args) (hEc : ∀ U : State, U.heap = H → s.WarmedH U.vm → ky_E G U) (hfr : ∀ q, A q → ky_fr G q)
    (hM : Met l y (.code y bytes maxL ret :: ky_B) rm (ky_P G (.ref b :: As) wc H.size EX) (ky_Q G (va_A wc H.size) post w1 EX1) mc ms (va_A wc H.size)) (w : va_CU R s args own C owner index x y bytes maxL ret (.code y bytes maxL ret :: ky_B) rm mc ms n)
    (hn : As.length = n) (hl : ls.size = nL) (hst : st = As.reverse ++ .ref b :: rest) (hcat : (rest.map fun v => v.category).sum ≤ 8) (hf : cells + mc ≤ R.cells ∧ slots + ms ≤ R.slots)
    (hrc : ∃ cellB : Cell, H[b]? = some cellB ∧ cellB.vm.isStatics = false ∧ s.vm.findClass C = some cellB.cls) (hEX : EX H) (hP : va_P G.1 kcl ws H) (hD : va_D A ws) (hS : va_S A s.heap H locs) (hA : ∀ q, s.heap.size ≤ q → A q)
    (isC isR : List Nat) (hC : isC.map (fun i => ws[i]?) = wc.map some) (hRr : isR.map (fun i => ws[i]?) = wr.map some) (hnC : va_nd isC = true) (hnR : va_nd isR = true) (hdis : ∀ i ∈ isR, i ∉ isC)
    (hdg : decode cc pc = .ok (.invokevirtual index, 3))
    (kk : ∀ (v : Option Value) (u : S) (H1 : Heap) (locs1 : List Loc), post v u → va_P G.1 kcl (wr ++ w1 u) H1 → va_D A (wr ++ w1 u) → va_S A s.heap H1 locs1 → EX1 u H1 → H.size ≤ H1.size → (∀ q : Nat, q < H.size → ¬ va_A wc H.size q → H1[q]? = H[q]?) →
      W p l e R s m args below meth c H1 locs1 (cells + mc) (slots + ms) Q (F0 m (pc + 3) ls (v.toList ++ rest))) : W p l e R s m args below meth c H locs cells slots Q (F0 m pc ls st) := by
  obtain ⟨hx, hb, hml, hown, -, -, hts⟩ := F
  have hPc : va_P G.1 kcl wc H := hP.by (fun k => (isC[k]?).getD 0) (fun k q hk => ky_pick hC hk)
  have hDc : va_D (ky_fr G) wc := (hD.sub isC hnC hC).weaken (fun _ _ _ z => hfr _ z)
  have hr := va_runU (l := l) (e := e) (R := R) (below := below) (meth := meth) (H := H) (locs := locs) (cells := cells) (slots := slots) (mc := mc) (ms := ms) (g := F0 m pc ls st) (rest := rest) (As := As) (b := b) ⟨hx, hb, hml, hown, hts⟩ hM
    w ⟨ky_P.blind, hrc, fun U hU hW => ⟨rfl, hEc U hU hW, by rw [hU], by rw [hU]; exact hPc, hDc, by rw [hU]; exact hEX⟩⟩ rfl hn hl hst (lv_room hcat) hdg hf
  exact ky_run hr hP hD hS hA isC isR hC hRr hnR hdis kk
theorem ky_cWh {S : Type} {EX : Heap → Prop} {post : Option Value → S → Prop} {w1 : S → va_W} {EX1 : S → Heap → Prop} {ws wc wr : va_W} {C : String} {ci : Nat} {T : u_T} {N : Nat} (F : ky_F p s m meth c own cc nL ret9 args) (hEc : ∀ U : State, U.heap = H → s.WarmedH U.vm → ky_E G U) (hfr : ∀ q, A q → ky_fr G q) (hEs : va_K G.1 kcl (ky_tys G.2.1) s) (hci : kcl[ci]? = some (C, T, N))
    (hM : Met l y (.code y bytes maxL ret :: ky_B) rm (ky_P G (.ref b :: As) wc H.size EX) (ky_Q G (va_A wc H.size) post w1 EX1) mc ms (va_A wc H.size)) (w : ky_wSU own index y bytes maxL ret n)
    (hR : (rm.cells = mc ∧ rm.slots = ms) ∧ rm.frames + 1 ≤ R.frames ∧ 8 + (maxL + 11) + rm.locals ≤ R.locals) (hn : As.length = n) (hl : ls.size = nL) (hst : st = As.reverse ++ .ref b :: rest) (hcat : (rest.map fun v => v.category).sum ≤ 8) (hf : cells + mc ≤ R.cells ∧ slots + ms ≤ R.slots)
    (hrc : ∃ cellB : Cell, H[b]? = some cellB ∧ cellB.vm.isStatics = false ∧ s.vm.findClass C = some cellB.cls) (hEX : EX H) (hP : va_P G.1 kcl ws H) (hD : va_D A ws) (hS : va_S A s.heap H locs) (hA : ∀ q, s.heap.size ≤ q → A q)
    (isC isR : List Nat) (hC : isC.map (fun i => ws[i]?) = wc.map some) (hRr : isR.map (fun i => ws[i]?) = wr.map some) (hnC : va_nd isC = true) (hnR : va_nd isR = true) (hdis : ∀ i ∈ isR, i ∉ isC)
    (hdg : decode cc pc = .ok (.invokespecial index, 3))
    (kk : ∀ (v : Option Value) (u : S) (H1 : Heap) (locs1 : List Loc), post v u → va_P G.1 kcl (wr ++ w1 u) H1 → va_D A (wr ++ w1 u) → va_S A s.heap H1 locs1 → EX1 u H1 → H.size ≤ H1.size → (∀ q : Nat, q < H.size → ¬ va_A wc H.size q → H1[q]? = H[q]?) →
      W p l e R s m args below meth c H1 locs1 (cells + mc) (slots + ms) Q (F0 m (pc + 3) ls (v.toList ++ rest))) : W p l e R s m args below meth c H locs cells slots Q (F0 m pc ls st) := by
  obtain ⟨hx, hb, hml, hown, -, -, hts⟩ := F
  have hPc : va_P G.1 kcl wc H := hP.by (fun k => (isC[k]?).getD 0) (fun k q hk => ky_pick hC hk)
  have hDc : va_D (ky_fr G) wc := (hD.sub isC hnC hC).weaken (fun _ _ _ z => hfr _ z)
  have hr := va_runSU (l := l) (e := e) (R := R) (below := below) (meth := meth) (H := H) (locs := locs) (cells := cells) (slots := slots) (mc := mc) (ms := ms) (g := F0 m pc ls st) (rest := rest) (As := As) (b := b) (hEs.1 ci _ hci).2 ⟨hx, hb, hml, hown, hts⟩ hM
    (va_cwSU (rm := rm) (ws' := ky_B) n hts w.good rfl hR.1.1 hR.1.2 ⟨w.2.2.2.2.2.2.1, w.2.2.2.2.2.2.2⟩ hR.2) ⟨ky_P.blind, hrc, fun U hU hW => ⟨rfl, hEc U hU hW, by rw [hU], by rw [hU]; exact hPc, hDc, by rw [hU]; exact hEX⟩⟩ rfl hn hl hst (lv_room hcat) hdg hf
  exact ky_run hr hP hD hS hA isC isR hC hRr hnR hdis kk
end KYU
/-! a new array's class is the one that is known -/
theorem ky_nB {D : va_G} {cl : List vw_C} {cy : Nat → ClassId} {s : State} {cA : ClassId} {ty : FieldType} (k : Nat) (h1 : va_K D cl (ky_tys cy) s) (h2 : va_K D cl (ky_tys cy ++ [(cA, ty)]) s) (hk : (ky_tys cy)[k]? = some (cy k, ty)) (hty : ∀ C, ty ≠ .object C) : cA = cy k := by
  have a := (h1.2 k _ hk).2
  have b := (h2.2 6 (cA, ty) rfl).2
  cases ty with
  | object C => exact absurd rfl (hty C)
  | _ => exact Option.some.inj (b.symm.trans a)
theorem ky_nA {D : va_G} {cl : List vw_C} {cy : Nat → ClassId} {s : State} {cA : ClassId} {C : String} (k : Nat) (h1 : va_K D cl (ky_tys cy) s) (h2 : va_K D cl (ky_tys cy ++ [(cA, .object C)]) s) (hk : (ky_tys cy)[k]? = some (cy k, .object C)) : cA = cy k := by
  obtain ⟨-, -, -, -, -, a⟩ := (h1.2 k _ hk).2
  obtain ⟨-, -, -, -, -, b⟩ := (h2.2 6 (cA, .object C) rfl).2
  exact Option.some.inj (b.symm.trans a)
