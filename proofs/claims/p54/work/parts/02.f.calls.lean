/-! calls: what comes before the call is cut out of the world, what comes back is joined to the rest -/
def ky_b {α β γ : Type} (x : Sum String (α × β)) (k : α → β → Sum String γ) : Sum String γ := match x with | .inl e => .inl e | .inr a => k a.1 a.2
theorem ky_bl {α β γ : Type} {x : Sum String (α × β)} {k : α → β → Sum String γ} {E : String} (h : x = .inl E) : ky_b x k = .inl E := by rw [h]; rfl
theorem ky_br {α β γ : Type} {x : Sum String (α × β)} {k : α → β → Sum String γ} {a : α} {b : β} (h : x = .inr (a, b)) : ky_b x k = k a b := by rw [h]; rfl
theorem ky_pi {β : Type} {f : Int32 × β} {e : Int32} {u : β} (h : f = (e, u)) : some (Value.int e) = some (Value.int f.1) ∧ u = f.2 := by rw [h]; exact ⟨rfl, rfl⟩
theorem ky_pl {β : Type} {f : Int64 × β} {e : Int64} {u : β} (h : f = (e, u)) : some (Value.long e) = some (Value.long f.1) ∧ u = f.2 := by rw [h]; exact ⟨rfl, rfl⟩
theorem ky_pv {β : Type} {f : Unit × β} {e : Unit} {u : β} (h : f = (e, u)) : (none : Option Value) = none ∧ u = f.2 := by rw [h]; exact ⟨rfl, rfl⟩
theorem ky_E.at0 {G : ky_G} {s : State} (hE : ky_E G s) : ∀ U : State, U.heap = s.heap → s.WarmedH U.vm → ky_E G U := by
  intro U hU hW
  obtain ⟨h1, h2, h3, h4, h5⟩ := hE
  exact ⟨va_K.moved hW.alike h1, by rw [hU]; exact h2, fun q hq => by rw [hU]; exact h3 q hq, State.WarmedH.trans h4 hW, h5⟩
/-- a number's object: it doesn't change -/
abbrev ky_It (G : ky_G) (a : Nat) (v : Int32 × Int64) (H : Heap) : Prop := va_P G.1 kcl [(a, .inr (4, [.int v.1, .long v.2]))] H
theorem ky_It.keep {G : ky_G} {a : Nat} {v : Int32 × Int64} {H H1 : Heap} (h : ky_It G a v H) (e : H1[a]? = H[a]?) : ky_It G a v H1 := va_P.kept h (fun k q hk => by
  match k, hk with
  | 0, hk => cases hk; exact e
  | k + 1, hk => simp at hk)
theorem ky_It.low {G : ky_G} {a : Nat} {v : Int32 × Int64} {H : Heap} (h : ky_It G a v H) : a < H.size := (h 0 _ rfl).lt
def ky_P1 (G : ky_G) (As : List Value) (EX : Heap → Prop) : Array Value → State → Prop := fun v U => v = As.toArray ∧ ky_E G U ∧ EX U.heap
theorem ky_P1.blind {G : ky_G} {As : List Value} {EX : Heap → Prop} : FrameBlind (ky_P1 G As EX) := by
  rintro a U g mk ⟨h1, ⟨k1, k2, k3, k4, k5⟩, h6⟩
  exact ⟨h1, ⟨va_K.moved (u := U) (U := U.calling g mk a) (Vm.Alike.refl U.vm) k1, k2, k3, k4, k5⟩, h6⟩
theorem ky_start1 {l : Launch} {y : MethodName} {cc : ByteArray} {maxL : Nat} {ret : Option FieldType} {rm : Room} {As : List Value} {G : ky_G} {EX : Heap → Prop} {v : Option Value}
    (hy : plainName y.cls = true) (hlen : (lg_sl As).length ≤ maxL)
    (body : ∀ (p : Program) (e : Env) (s : State) (m : MethodId) (below : List Frame) (meth : Method) (c : Code), ky_F p s m meth c y.cls cc maxL ret As.toArray → ky_E G s → EX s.heap → ∀ ls : Array Slot, lv_has ls maxL (lv_args 0 As) →
      W p l e rm s m As.toArray below meth c s.heap [] 0 0 (MQ below (ky_Q0 v) As.toArray s 0 0 (fun _ => False)) (F0 m 0 ls [])) :
    Met l y (.code y cc maxL ret :: ky_B) rm (ky_P1 G As EX) (ky_Q0 v) 0 0 (fun _ => False) := by
  refine Met.ofW (cc := cc) (maxL := maxL) (ret := ret) hy rfl ?_
  intro p e s m args below meth c s₁ B hml hv
  obtain ⟨rfl, hE, hX⟩ := hv
  have hts := atoms_spec (ws := .code y cc maxL ret :: ky_B) B.pre
  have F : ky_F p s m meth c y.cls cc maxL ret As.toArray := ⟨B.exec, B.bytes, hml, findClass_of_methodNamed B.named, B.returns, B.notSynchronized, fun w hw => hts w (List.mem_cons_of_mem _ hw)⟩
  have hl := lv_entry As (n := maxL) hlen
  rw [lg_entry_eq]
  exact body p e s m below meth c F hE hX _ hl
theorem ky_pick {ws wc : va_W} {isC : List Nat} (hC : isC.map (fun i => ws[i]?) = wc.map some) {k : Nat} {q : Nat × va_E} (hk : wc[k]? = some q) : ws[(isC[k]?).getD 0]? = some q := by
  have h1 : (isC.map (fun i => ws[i]?))[k]? = some (some q) := by rw [hC, List.getElem?_map, hk]; rfl
  rw [List.getElem?_map] at h1
  cases hi : isC[k]? with
  | none => rw [hi] at h1; cases h1
  | some i => rw [hi] at h1; exact Option.some.inj h1
section KYC
variable {p : Program} {l : Launch} {e : Env} {R : Room} {s : State} {m : MethodId} {args : Array Value} {below : List Frame} {meth : Method} {c : Code} {H : Heap} {locs : List Loc} {cells slots : Nat} {Q : State → Prop}
variable {cc : ByteArray} {own : String} {nL : Nat} {ret9 : Option FieldType} {pc : Nat} {ls : Array Slot} {rest st : List Value} {mc ms : Nat} {A : Nat → Prop} {G : ky_G}
variable {y : MethodName} {bytes : ByteArray} {maxL n index : Nat} {ret : Option FieldType} {rm : Room} {As : List Value} {b : Nat}
/-- a call that reads numbers alone -/
theorem ky_cV1 {EX : Heap → Prop} {v : Value} (F : ky_F p s m meth c own cc nL ret9 args) (hEc : ∀ U : State, U.heap = H → s.WarmedH U.vm → ky_E G U)
    (hM : Met l y (.code y bytes maxL ret :: ky_B) rm (ky_P1 G (.ref b :: As) EX) (ky_Q0 (some v)) 0 0 (fun _ => False)) (w : ky_wV own index y bytes maxL ret n)
    (hR : (rm.cells = 0 ∧ rm.slots = 0) ∧ rm.frames + 1 ≤ R.frames ∧ 8 + (maxL + 11) + rm.locals ≤ R.locals) (hn : As.length = n) (hl : ls.size = nL) (hst : st = As.reverse ++ .ref b :: rest) (hcat : (rest.map fun v => v.category).sum ≤ 8) (hf : cells ≤ R.cells ∧ slots ≤ R.slots)
    (hrc : ∃ cellB : Cell, H[b]? = some cellB ∧ cellB.vm.isStatics = false ∧ s.vm.findClass y.cls = some cellB.cls) (hEX : EX H)
    (hdg : decode cc pc = .ok (.invokevirtual index, 3)) (kk : W p l e R s m args below meth c H locs cells slots Q (F0 m (pc + 3) ls (v :: rest))) : W p l e R s m args below meth c H locs cells slots Q (F0 m pc ls st) := by
  obtain ⟨hx, hb, hml, hown, -, -, hts⟩ := F
  have hr := va_runV (l := l) (e := e) (R := R) (below := below) (meth := meth) (H := H) (locs := locs) (cells := cells) (slots := slots) (mc := 0) (ms := 0) (g := F0 m pc ls st) (rest := rest) (As := As) (b := b) ⟨hx, hb, hml, hown, hts⟩ hM
    (cwV (rm := rm) (ws' := ky_B) n hts w.good rfl hR.1.1 hR.1.2 ⟨rfl, w.2.2.2.2.2.1, w.2.2.2.2.2.2.1, w.2.2.2.2.2.2.2⟩ hR.2) ⟨ky_P1.blind, hrc, fun U hU hW => ⟨rfl, hEc U hU hW, by rw [hU]; exact hEX⟩⟩ rfl hn hl hst (lv_room hcat) hdg hf
  intro T hT X
  obtain ⟨v1, st₀, t, T', L, h0, X', hL, e1, -, ⟨hv, hh⟩, sg⟩ := hr T hT X
  cases hv
  obtain ⟨t2, a1, b1⟩ := kk T' (by rw [e1, hh, h0]) (Stand.forget X' (fun q h => (hL q h).elim))
  exact ⟨t2, sg t2 a1, b1⟩
theorem ky_cVh {S : Type} {EX : Heap → Prop} {post : Option Value → S → Prop} {w1 : S → va_W} {EX1 : S → Heap → Prop} {ws wc wr : va_W} (F : ky_F p s m meth c own cc nL ret9 args) (hEc : ∀ U : State, U.heap = H → s.WarmedH U.vm → ky_E G U) (hfr : ∀ q, A q → ky_fr G q)
    (hM : Met l y (.code y bytes maxL ret :: ky_B) rm (ky_P G (.ref b :: As) wc H.size EX) (ky_Q G (va_A wc H.size) post w1 EX1) mc ms (va_A wc H.size)) (w : ky_wV own index y bytes maxL ret n)
    (hR : (rm.cells = mc ∧ rm.slots = ms) ∧ rm.frames + 1 ≤ R.frames ∧ 8 + (maxL + 11) + rm.locals ≤ R.locals) (hn : As.length = n) (hl : ls.size = nL) (hst : st = As.reverse ++ .ref b :: rest) (hcat : (rest.map fun v => v.category).sum ≤ 8) (hf : cells + mc ≤ R.cells ∧ slots + ms ≤ R.slots)
    (hrc : ∃ cellB : Cell, H[b]? = some cellB ∧ cellB.vm.isStatics = false ∧ s.vm.findClass y.cls = some cellB.cls) (hEX : EX H) (hP : va_P G.1 kcl ws H) (hD : va_D A ws) (hS : va_S A s.heap H locs) (hA : ∀ q, s.heap.size ≤ q → A q)
    (isC isR : List Nat) (hC : isC.map (fun i => ws[i]?) = wc.map some) (hRr : isR.map (fun i => ws[i]?) = wr.map some) (hnC : va_nd isC = true) (hnR : va_nd isR = true) (hdis : ∀ i ∈ isR, i ∉ isC)
    (hdg : decode cc pc = .ok (.invokevirtual index, 3))
    (kk : ∀ (v : Option Value) (u : S) (H1 : Heap) (locs1 : List Loc), post v u → va_P G.1 kcl (wr ++ w1 u) H1 → va_D A (wr ++ w1 u) → va_S A s.heap H1 locs1 → EX1 u H1 → H.size ≤ H1.size → (∀ q : Nat, q < H.size → ¬ va_A wc H.size q → H1[q]? = H[q]?) →
      W p l e R s m args below meth c H1 locs1 (cells + mc) (slots + ms) Q (F0 m (pc + 3) ls (v.toList ++ rest))) : W p l e R s m args below meth c H locs cells slots Q (F0 m pc ls st) := by
  obtain ⟨hx, hb, hml, hown, -, -, hts⟩ := F
  have hPc : va_P G.1 kcl wc H := hP.by (fun k => (isC[k]?).getD 0) (fun k q hk => ky_pick hC hk)
  have hDc : va_D (ky_fr G) wc := (hD.sub isC hnC hC).weaken (fun _ _ _ z => hfr _ z)
  have hr := va_runV (l := l) (e := e) (R := R) (below := below) (meth := meth) (H := H) (locs := locs) (cells := cells) (slots := slots) (mc := mc) (ms := ms) (g := F0 m pc ls st) (rest := rest) (As := As) (b := b) ⟨hx, hb, hml, hown, hts⟩ hM
    (cwV (rm := rm) (ws' := ky_B) n hts w.good rfl hR.1.1 hR.1.2 ⟨rfl, w.2.2.2.2.2.1, w.2.2.2.2.2.2.1, w.2.2.2.2.2.2.2⟩ hR.2) ⟨ky_P.blind, hrc, fun U hU hW => ⟨rfl, hEc U hU hW, by rw [hU], by rw [hU]; exact hPc, hDc, by rw [hU]; exact hEX⟩⟩ rfl hn hl hst (lv_room hcat) hdg hf
  exact ky_run hr hP hD hS hA isC isR hC hRr hnR hdis kk
theorem ky_cSh {S : Type} {EX : Heap → Prop} {post : Option Value → S → Prop} {w1 : S → va_W} {EX1 : S → Heap → Prop} {ws wc wr : va_W} (F : ky_F p s m meth c own cc nL ret9 args) (hEc : ∀ U : State, U.heap = H → s.WarmedH U.vm → ky_E G U) (hfr : ∀ q, A q → ky_fr G q)
    (hM : Met l y (.code y bytes maxL ret :: ky_B) rm (ky_P G (As) wc H.size EX) (ky_Q G (va_A wc H.size) post w1 EX1) mc ms (va_A wc H.size)) (w : ky_wS own index y bytes maxL ret n)
    (hR : (rm.cells = mc ∧ rm.slots = ms) ∧ rm.frames + 1 ≤ R.frames ∧ 8 + (maxL + 11) + rm.locals ≤ R.locals) (hn : As.length = n) (hl : ls.size = nL) (hst : st = As.reverse ++ rest) (hcat : (rest.map fun v => v.category).sum ≤ 8) (hf : cells + mc ≤ R.cells ∧ slots + ms ≤ R.slots)
    (hEX : EX H) (hP : va_P G.1 kcl ws H) (hD : va_D A ws) (hS : va_S A s.heap H locs) (hA : ∀ q, s.heap.size ≤ q → A q)
    (isC isR : List Nat) (hC : isC.map (fun i => ws[i]?) = wc.map some) (hRr : isR.map (fun i => ws[i]?) = wr.map some) (hnC : va_nd isC = true) (hnR : va_nd isR = true) (hdis : ∀ i ∈ isR, i ∉ isC)
    (hdg : decode cc pc = .ok (.invokestatic index, 3))
    (kk : ∀ (v : Option Value) (u : S) (H1 : Heap) (locs1 : List Loc), post v u → va_P G.1 kcl (wr ++ w1 u) H1 → va_D A (wr ++ w1 u) → va_S A s.heap H1 locs1 → EX1 u H1 → H.size ≤ H1.size → (∀ q : Nat, q < H.size → ¬ va_A wc H.size q → H1[q]? = H[q]?) →
      W p l e R s m args below meth c H1 locs1 (cells + mc) (slots + ms) Q (F0 m (pc + 3) ls (v.toList ++ rest))) : W p l e R s m args below meth c H locs cells slots Q (F0 m pc ls st) := by
  obtain ⟨hx, hb, hml, hown, -, -, hts⟩ := F
  have hPc : va_P G.1 kcl wc H := hP.by (fun k => (isC[k]?).getD 0) (fun k q hk => ky_pick hC hk)
  have hDc : va_D (ky_fr G) wc := (hD.sub isC hnC hC).weaken (fun _ _ _ z => hfr _ z)
  have hr := va_runS (l := l) (e := e) (R := R) (below := below) (meth := meth) (H := H) (locs := locs) (cells := cells) (slots := slots) (mc := mc) (ms := ms) (g := F0 m pc ls st) (rest := rest) (As := As) ⟨hx, hb, hml, hown, hts⟩ hM
    (va_cwS (rm := rm) (ws' := ky_B) n hts w.good rfl hR.1.1 hR.1.2 ⟨w.2.2.2.2.1, w.2.2.2.2.2.1, w.2.2.2.2.2.2⟩ hR.2) ⟨ky_P.blind, fun U hU hW => ⟨rfl, hEc U hU hW, by rw [hU], by rw [hU]; exact hPc, hDc, by rw [hU]; exact hEX⟩⟩ rfl hn hl hst (lv_room hcat) hdg hf
  exact ky_run hr hP hD hS hA isC isR hC hRr hnR hdis kk
theorem ky_cIh {S : Type} {EX : Heap → Prop} {post : Option Value → S → Prop} {w1 : S → va_W} {EX1 : S → Heap → Prop} {ws wc wr : va_W} (F : ky_F p s m meth c own cc nL ret9 args) (hEc : ∀ U : State, U.heap = H → s.WarmedH U.vm → ky_E G U) (hfr : ∀ q, A q → ky_fr G q)
    (hM : Met l y (.code y bytes maxL none :: ky_B) rm (ky_P G (.ref b :: As) wc H.size EX) (ky_Q G (va_A wc H.size) post w1 EX1) mc ms (va_A wc H.size)) (w : ky_wI own index y bytes maxL n)
    (hR : (rm.cells = mc ∧ rm.slots = ms) ∧ rm.frames + 1 ≤ R.frames ∧ 8 + (maxL + 11) + rm.locals ≤ R.locals) (hn : As.length = n) (hl : ls.size = nL) (hst : st = As.reverse ++ .ref b :: rest) (hcat : (rest.map fun v => v.category).sum ≤ 8) (hf : cells + mc ≤ R.cells ∧ slots + ms ≤ R.slots)
    (hEX : EX H) (hP : va_P G.1 kcl ws H) (hD : va_D A ws) (hS : va_S A s.heap H locs) (hA : ∀ q, s.heap.size ≤ q → A q)
    (isC isR : List Nat) (hC : isC.map (fun i => ws[i]?) = wc.map some) (hRr : isR.map (fun i => ws[i]?) = wr.map some) (hnC : va_nd isC = true) (hnR : va_nd isR = true) (hdis : ∀ i ∈ isR, i ∉ isC)
    (hdg : decode cc pc = .ok (.invokespecial index, 3))
    (kk : ∀ (v : Option Value) (u : S) (H1 : Heap) (locs1 : List Loc), post v u → va_P G.1 kcl (wr ++ w1 u) H1 → va_D A (wr ++ w1 u) → va_S A s.heap H1 locs1 → EX1 u H1 → H.size ≤ H1.size → (∀ q : Nat, q < H.size → ¬ va_A wc H.size q → H1[q]? = H[q]?) →
      W p l e R s m args below meth c H1 locs1 (cells + mc) (slots + ms) Q (F0 m (pc + 3) ls (v.toList ++ rest))) : W p l e R s m args below meth c H locs cells slots Q (F0 m pc ls st) := by
  obtain ⟨hx, hb, hml, hown, -, -, hts⟩ := F
  have hPc : va_P G.1 kcl wc H := hP.by (fun k => (isC[k]?).getD 0) (fun k q hk => ky_pick hC hk)
  have hDc : va_D (ky_fr G) wc := (hD.sub isC hnC hC).weaken (fun _ _ _ z => hfr _ z)
  have hr := va_runI (l := l) (e := e) (R := R) (below := below) (meth := meth) (H := H) (locs := locs) (cells := cells) (slots := slots) (mc := mc) (ms := ms) (g := F0 m pc ls st) (rest := rest) (As := As) (b := b) ⟨hx, hb, hml, hown, hts⟩ hM
    (cwI (rm := rm) (ws' := ky_B) n hts (ky_in (fun w9 hw9 => (List.mem_cons.mp hw9).elim (fun z => z ▸ w.2.2.2.1) (fun z => z))) rfl hR.1.1 hR.1.2 (hts _ w.2.2.1) (hts _ w.1) (hts _ w.2.1) w.2.2.2.2.1 ⟨w.2.2.2.2.2.1, w.2.2.2.2.2.2.1, w.2.2.2.2.2.2.2⟩ hR.2) ⟨ky_P.blind, fun U hU hW => ⟨rfl, hEc U hU hW, by rw [hU], by rw [hU]; exact hPc, hDc, by rw [hU]; exact hEX⟩⟩ rfl hn hl hst (lv_room hcat) hdg hf
  exact ky_run hr hP hD hS hA isC isR hC hRr hnR hdis kk
theorem ky_cVx {S : Type} {EX : Heap → Prop} {post : Option Value → S → Prop} {w1 : S → va_W} {EX1 : S → Heap → Prop} {px : String → Prop} {wx : va_W} {ws wc wr : va_W} (F : ky_F p s m meth c own cc nL ret9 args) (hEc : ∀ U : State, U.heap = H → s.WarmedH U.vm → ky_E G U) (hfr : ∀ q, A q → ky_fr G q)
    (hM : vx_Met l y (.code y bytes maxL ret :: ky_B) rm (ky_P G (.ref b :: As) wc H.size EX) (ky_Q G (va_A wc H.size) post w1 EX1) (ky_X G (va_A wc H.size) px wx) mc ms (va_A wc H.size)) (w : ky_wV own index y bytes maxL ret n)
    (hR : (rm.cells = mc ∧ rm.slots = ms) ∧ rm.frames + 1 ≤ R.frames ∧ 8 + (maxL + 11) + rm.locals ≤ R.locals) (hn : As.length = n) (hl : ls.size = nL) (hst : st = As.reverse ++ .ref b :: rest) (hcat : (rest.map fun v => v.category).sum ≤ 8) (hf : cells + mc ≤ R.cells ∧ slots + ms ≤ R.slots)
    (hrc : ∃ cellB : Cell, H[b]? = some cellB ∧ cellB.vm.isStatics = false ∧ s.vm.findClass y.cls = some cellB.cls) (hEX : EX H) (hP : va_P G.1 kcl ws H) (hD : va_D A ws) (hS : va_S A s.heap H locs) (hA : ∀ q, s.heap.size ≤ q → A q)
    (isC isR : List Nat) (hC : isC.map (fun i => ws[i]?) = wc.map some) (hRr : isR.map (fun i => ws[i]?) = wr.map some) (hnC : va_nd isC = true) (hnR : va_nd isR = true) (hdis : ∀ i ∈ isR, i ∉ isC)
    (hdg : decode cc pc = .ok (.invokevirtual index, 3))
    (kx : ∀ (E : String) (ce : Cell) (q9 : Addr) (H1 : Heap) (locs1 : List Loc), px E → va_P G.1 kcl (wr ++ wx) H1 → va_D A (wr ++ wx) → va_S A s.heap H1 locs1 → H.size ≤ H1.size → (∀ q : Nat, q < H.size → ¬ va_A wc H.size q → H1[q]? = H[q]?) → H1[q9]? = some ce → ce.vm = .none → s.vm.findClass E = some ce.cls →
      vx_W p l e R s m args below meth c H1 locs1 (cells + mc) (slots + ms) Q (F0 m pc ls rest) q9)
    (kk : ∀ (v : Option Value) (u : S) (H1 : Heap) (locs1 : List Loc), post v u → va_P G.1 kcl (wr ++ w1 u) H1 → va_D A (wr ++ w1 u) → va_S A s.heap H1 locs1 → EX1 u H1 → H.size ≤ H1.size → (∀ q : Nat, q < H.size → ¬ va_A wc H.size q → H1[q]? = H[q]?) →
      W p l e R s m args below meth c H1 locs1 (cells + mc) (slots + ms) Q (F0 m (pc + 3) ls (v.toList ++ rest))) : W p l e R s m args below meth c H locs cells slots Q (F0 m pc ls st) := by
  obtain ⟨hx, hb, hml, hown, -, -, hts⟩ := F
  have hPc : va_P G.1 kcl wc H := hP.by (fun k => (isC[k]?).getD 0) (fun k q hk => ky_pick hC hk)
  have hDc : va_D (ky_fr G) wc := (hD.sub isC hnC hC).weaken (fun _ _ _ z => hfr _ z)
  have hr := vx_runV (l := l) (e := e) (R := R) (below := below) (meth := meth) (H := H) (locs := locs) (cells := cells) (slots := slots) (mc := mc) (ms := ms) (g := F0 m pc ls st) (rest := rest) (As := As) (b := b) ⟨hx, hb, hml, hown, hts⟩ hM
    (cwV (rm := rm) (ws' := ky_B) n hts w.good rfl hR.1.1 hR.1.2 ⟨rfl, w.2.2.2.2.2.1, w.2.2.2.2.2.2.1, w.2.2.2.2.2.2.2⟩ hR.2) ⟨ky_P.blind, hrc, fun U hU hW => ⟨rfl, hEc U hU hW, by rw [hU], by rw [hU]; exact hPc, hDc, by rw [hU]; exact hEX⟩⟩ rfl hn hl hst (lv_room hcat) hdg hf
  exact ky_runX hr hP hD hS hA isC isR hC hRr hnR hdis kx kk
theorem ky_cSx {S : Type} {EX : Heap → Prop} {post : Option Value → S → Prop} {w1 : S → va_W} {EX1 : S → Heap → Prop} {px : String → Prop} {wx : va_W} {ws wc wr : va_W} (F : ky_F p s m meth c own cc nL ret9 args) (hEc : ∀ U : State, U.heap = H → s.WarmedH U.vm → ky_E G U) (hfr : ∀ q, A q → ky_fr G q)
    (hM : vx_Met l y (.code y bytes maxL ret :: ky_B) rm (ky_P G (As) wc H.size EX) (ky_Q G (va_A wc H.size) post w1 EX1) (ky_X G (va_A wc H.size) px wx) mc ms (va_A wc H.size)) (w : ky_wS own index y bytes maxL ret n)
    (hR : (rm.cells = mc ∧ rm.slots = ms) ∧ rm.frames + 1 ≤ R.frames ∧ 8 + (maxL + 11) + rm.locals ≤ R.locals) (hn : As.length = n) (hl : ls.size = nL) (hst : st = As.reverse ++ rest) (hcat : (rest.map fun v => v.category).sum ≤ 8) (hf : cells + mc ≤ R.cells ∧ slots + ms ≤ R.slots)
    (hEX : EX H) (hP : va_P G.1 kcl ws H) (hD : va_D A ws) (hS : va_S A s.heap H locs) (hA : ∀ q, s.heap.size ≤ q → A q)
    (isC isR : List Nat) (hC : isC.map (fun i => ws[i]?) = wc.map some) (hRr : isR.map (fun i => ws[i]?) = wr.map some) (hnC : va_nd isC = true) (hnR : va_nd isR = true) (hdis : ∀ i ∈ isR, i ∉ isC)
    (hdg : decode cc pc = .ok (.invokestatic index, 3))
    (kx : ∀ (E : String) (ce : Cell) (q9 : Addr) (H1 : Heap) (locs1 : List Loc), px E → va_P G.1 kcl (wr ++ wx) H1 → va_D A (wr ++ wx) → va_S A s.heap H1 locs1 → H.size ≤ H1.size → (∀ q : Nat, q < H.size → ¬ va_A wc H.size q → H1[q]? = H[q]?) → H1[q9]? = some ce → ce.vm = .none → s.vm.findClass E = some ce.cls →
      vx_W p l e R s m args below meth c H1 locs1 (cells + mc) (slots + ms) Q (F0 m pc ls rest) q9)
    (kk : ∀ (v : Option Value) (u : S) (H1 : Heap) (locs1 : List Loc), post v u → va_P G.1 kcl (wr ++ w1 u) H1 → va_D A (wr ++ w1 u) → va_S A s.heap H1 locs1 → EX1 u H1 → H.size ≤ H1.size → (∀ q : Nat, q < H.size → ¬ va_A wc H.size q → H1[q]? = H[q]?) →
      W p l e R s m args below meth c H1 locs1 (cells + mc) (slots + ms) Q (F0 m (pc + 3) ls (v.toList ++ rest))) : W p l e R s m args below meth c H locs cells slots Q (F0 m pc ls st) := by
  obtain ⟨hx, hb, hml, hown, -, -, hts⟩ := F
  have hPc : va_P G.1 kcl wc H := hP.by (fun k => (isC[k]?).getD 0) (fun k q hk => ky_pick hC hk)
  have hDc : va_D (ky_fr G) wc := (hD.sub isC hnC hC).weaken (fun _ _ _ z => hfr _ z)
  have hr := vx_runS (l := l) (e := e) (R := R) (below := below) (meth := meth) (H := H) (locs := locs) (cells := cells) (slots := slots) (mc := mc) (ms := ms) (g := F0 m pc ls st) (rest := rest) (As := As) ⟨hx, hb, hml, hown, hts⟩ hM
    (va_cwS (rm := rm) (ws' := ky_B) n hts w.good rfl hR.1.1 hR.1.2 ⟨w.2.2.2.2.1, w.2.2.2.2.2.1, w.2.2.2.2.2.2⟩ hR.2) ⟨ky_P.blind, fun U hU hW => ⟨rfl, hEc U hU hW, by rw [hU], by rw [hU]; exact hPc, hDc, by rw [hU]; exact hEX⟩⟩ rfl hn hl hst (lv_room hcat) hdg hf
  exact ky_runX hr hP hD hS hA isC isR hC hRr hnR hdis kx kk
end KYC
