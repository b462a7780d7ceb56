/-! a new table of eight rows of six longs -/
def ky_mo (cA h i : Nat) : Cell := arrV cA 8 (fun j => va_rf (if j < i then some (h + 1 + j) else none))
def ky_mi (cB : Nat) : Cell := arrV cB 6 (fun _ => .long 0)
def ky_mf (T : State) (cA cB : Nat) : Nat → State
  | 0 => T.pushCell (ky_mo cA T.heap.size 0)
  | i + 1 => ((ky_mf T cA cB i).pushCell (ky_mi cB)).setCell T.heap.size (ky_mo cA T.heap.size (i + 1))
theorem ky_mo_up (cA h i : Nat) : (ky_mo cA h i).setSlot i (.ref (h + 1 + i)) = ky_mo cA h (i + 1) := by
  unfold ky_mo
  rw [arrV_store]
  refine congrArg (arrV cA 8) (funext fun j => ?_)
  unfold updV
  by_cases q : j = i
  · rw [if_pos q, if_pos (by omega), q]
    rfl
  · rw [if_neg q]
    by_cases w : j < i
    · show va_rf (if j < i then _ else _) = _
      rw [if_pos w, if_pos (by omega)]
    · show va_rf (if j < i then _ else _) = _
      rw [if_neg w, if_neg (by omega)]
theorem ky_mo_sz (cA h i : Nat) : (ky_mo cA h i).slots.size = 8 := arrV_size _ _ _
theorem ky_mi_sz (cB : Nat) : (ky_mi cB).slots.size = 6 := arrV_size _ _ _
theorem ky_mf_at (T : State) (cA cB : Nat) : ∀ i : Nat, ((ky_mf T cA cB i).heap.size = T.heap.size + 1 + i ∧ (ky_mf T cA cB i).heap[T.heap.size]? = some (ky_mo cA T.heap.size i) ∧ (ky_mf T cA cB i).vm = T.vm ∧ (ky_mf T cA cB i).slotsUsed = T.slotsUsed + 8 + i * 6) ∧
    (∀ x : Nat, x < T.heap.size → (ky_mf T cA cB i).heap[x]? = T.heap[x]?) ∧ ∀ j : Nat, j < i → (ky_mf T cA cB i).heap[T.heap.size + 1 + j]? = some (ky_mi cB)
  | 0 => ⟨⟨by show (T.heap.push _).size = _; rw [Array.size_push], Array.getElem?_push_size, rfl, by show T.slotsUsed + _ = _; rw [ky_mo_sz]⟩, fun x hx => by show (T.heap.push _)[x]? = _; rw [Array.getElem?_push, if_neg (Nat.ne_of_lt hx)], fun j hj => absurd hj (Nat.not_lt_zero _)⟩
  | i + 1 => by
    obtain ⟨⟨a1, a2, a3, a4⟩, a5, a6⟩ := ky_mf_at T cA cB i
    have z1 : (ky_mf T cA cB (i + 1)).heap.size = T.heap.size + 1 + (i + 1) := by
      show (((ky_mf T cA cB i).heap.push _).setIfInBounds _ _).size = _
      rw [Array.size_setIfInBounds, Array.size_push, a1]
      omega
    have far : ∀ x : Nat, x ≠ T.heap.size → x < T.heap.size + 1 + i → (ky_mf T cA cB (i + 1)).heap[x]? = (ky_mf T cA cB i).heap[x]? := fun x hx hl => by
      show (((ky_mf T cA cB i).heap.push _).setIfInBounds _ _)[x]? = _
      rw [Array.getElem?_setIfInBounds, if_neg (Ne.symm hx), Array.getElem?_push, if_neg (by omega)]
    refine ⟨⟨z1, ?_, a3, ?_⟩, fun x hx => (far x (by omega) (by omega)).trans (a5 x hx), fun j hj => ?_⟩
    · show (((ky_mf T cA cB i).heap.push _).setIfInBounds _ _)[_]? = _
      rw [Array.getElem?_setIfInBounds, if_pos rfl, if_pos (by rw [Array.size_push, a1]; omega)]
    · show (ky_mf T cA cB i).slotsUsed + _ = _
      rw [a4, ky_mi_sz]
      omega
    · by_cases q : j = i
      · subst q
        show (((ky_mf T cA cB j).heap.push _).setIfInBounds _ _)[_]? = _
        rw [Array.getElem?_setIfInBounds, if_neg (by omega), Array.getElem?_push, if_pos (by omega)]
      · exact (far _ (by omega) (by omega)).trans (a6 j (by omega))
theorem ky_mf_top (T : State) (f : JFrame) (cA cB : Nat) : ∀ i : Nat, ky_mf (T.setTop f) cA cB i = (ky_mf T cA cB i).setTop f
  | 0 => rfl
  | i + 1 => by
    show ((ky_mf (T.setTop f) cA cB i).pushCell _).setCell _ _ = _
    rw [ky_mf_top T f cA cB i]
    rfl
section KYMW
variable {E : CtlPost} {e : Env} {d : Bool} {acts : List Action} {s : State}
theorem ky_wn {c comp : ClassId} {k : Class} {ty : FieldType} {n : Nat} {v : Value} (h1 : s.vm.classes[c]? = some k) (h2 : k.kind = .array comp ty) (h3 : ¬ n > e.platform.arrayLengthLimit) (h4 : ¬ n * componentBytes ty > e.platform.maxHeapBytes) (h5 : fits ty v = true) (h6 : v.isDefault = true) {Q : Addr → Pre}
    (h7 : s.heap.size < e.platform.maxCells) (h8 : s.slotsUsed + n ≤ e.platform.maxSlots) (hq : ∀ acts', Q s.heap.size d acts' (s.pushCell (arrV c n (fun _ => v)))) : wp (Jvm.newArray c n v) Q E e d acts s := by
  have hf : ∀ (i : Nat) (w : Value), (Array.replicate n v)[i]? = some w → s.fitsSlot c .none i w = true := fun i w hw => by
    rw [Array.getElem?_replicate] at hw
    split at hw
    · cases hw
      simp [State.fitsSlot, State.slotType?, h1, h2, h5]
    · cases hw
  have hq9 := hq
  simp only [← arrV_new] at hq9
  simp only [Jvm.newArray, Jvm.arrayFits, wp_bind', W.ask, W.ite, h3, if_false, wp_pure', W.theClass, h1, h2, h4, W.alloc, W.stop, Option.some.injEq, exists_eq_left', Array.size_replicate]
  rw [if_neg (by omega)]
  exact ⟨h7, h8, hf, hq9 _⟩
theorem ky_wi {cB cc : ClassId} {k : Class} (h1 : s.vm.classes[cB]? = some k) (h2 : k.kind = .array cc .long) (h3 : ¬ 6 > e.platform.arrayLengthLimit) (h4 : ¬ 48 > e.platform.maxHeapBytes) (h7 : s.heap.size < e.platform.maxCells) (h8 : s.slotsUsed + 6 ≤ e.platform.maxSlots) {Q : Addr → Pre}
    (hq : ∀ acts', Q s.heap.size d acts' (s.pushCell (ky_mi cB))) : wp (multianewarray.make cB [(6 : Int32)]) Q E e d acts s := by
  rw [multianewarray.make]
  simp only [wp_bind', W.ite, show ¬ ((6 : Int32) < 0) by decide, if_false, wp_pure', W.theClass, h1, h2, Option.some.injEq, exists_eq_left']
  exact ky_wn h1 h2 h3 h4 rfl rfl h7 h8 hq
theorem ky_wm {cA cB cc : ClassId} {k kc : Class} (h1 : s.vm.classes[cA]? = some k) (h2 : k.kind = .array cB (.array .long)) (h3 : s.vm.classes[cB]? = some kc) (h4 : kc.kind = .array cc .long) (h5 : ¬ 8 > e.platform.arrayLengthLimit) (h6 : ¬ 48 > e.platform.maxHeapBytes)
    (h7 : s.heap.size + 9 ≤ e.platform.maxCells) (h8 : s.slotsUsed + 56 ≤ e.platform.maxSlots) {Q : Addr → Pre} (hq : ∀ d' acts', Q s.heap.size d' acts' (ky_mf s cA cB 8)) : wp (multianewarray.make cA [(8 : Int32), (6 : Int32)]) Q E e d acts s := by
  have hN : ([(6 : Int32)].find? (· < 0)) = none := by decide
  rw [multianewarray.make]
  simp only [wp_bind', W.ite, show ¬ ((8 : Int32) < 0) by decide, if_false, wp_pure', W.theClass, h1, h2, Option.some.injEq, exists_eq_left']
  refine ky_wn h1 h2 h5 (show ¬ 8 * 4 > _ by omega) rfl rfl (by omega) (show s.slotsUsed + 8 ≤ _ by omega) (fun acts' => ?_)
  simp only [hN]
  rw [ite_self, wp_bind', Std.Legacy.Range.forIn_eq_forIn_range']
  show wp (forIn (List.range' 0 8 1) PUnit.unit _) _ E e d acts' _
  refine wp_forIn_inv (fun r t => ∃ i : Nat, i ≤ 8 ∧ r = List.range' i (8 - i) ∧ t = ky_mf s cA cB i) _ _ ⟨0, Nat.zero_le _, rfl, rfl⟩ ?_ ?_
  · rintro x r t d' acts9 Q' ⟨i, hi, hl, rfl⟩ hnext
    have hlt : i < 8 := Nat.lt_of_le_of_ne hi (fun q => by subst q; cases hl)
    rw [show 8 - i = (8 - (i + 1)) + 1 by omega, List.range'_succ] at hl
    obtain ⟨rfl, hr⟩ := List.cons.inj hl
    obtain ⟨⟨a1, a2, a3, a4⟩, -, -⟩ := ky_mf_at s cA cB x
    simp only [wp_bind']
    refine ky_wi (by rw [a3]; exact h3) h4 (by omega) h6 (by rw [a1]; omega) (by rw [a4]; omega) (fun acts8 => ?_)
    simp only [wp_bind', W.writeLoc, wp_pure']
    refine ⟨ky_mo cA s.heap.size x, ?_, (by intro h; cases h), by rw [ky_mo_sz]; exact hlt, ?_, hnext _ _ _ ⟨x + 1, hlt, hr, ?_⟩⟩
    · show ((ky_mf s cA cB x).heap.push _)[_]? = _
      rw [Array.getElem?_push, if_neg (by omega)]
      exact a2
    · show (((ky_mf s cA cB x).pushCell (ky_mi cB)).fitsSlot cA .none x _) = true
      simp [State.fitsSlot, State.slotType?, a3, h1, h2, fits]
    · rw [a1, ky_mo_up]
      rfl
  · rintro t d' acts9 ⟨i, hi, hl, rfl⟩
    have h9 : i = 8 := by
      rcases Nat.lt_or_ge i 8 with h | h
      · rw [show 8 - i = (8 - (i + 1)) + 1 by omega, List.range'_succ] at hl
        cases hl
      · omega
    subst h9
    simp only [wp_pure']
    exact hq _ _
end KYMW
def ky_ov (U : State) : Prop := ∃ (cB cA : ClassId) (k : Class), U.vm.findClass "[J" = some cB ∧ U.vm.classes[cA]? = some k ∧ k.kind = .array cB (.array .long) ∧ U.vm.findClass "[[J" = some cA
theorem ky_E.ov {G : ky_G} {U : State} (hE : ky_E G U) (h : Cond.arrayOver (.array .long) ∈ lw_tbl) : ky_ov U := by
  obtain ⟨-, -, -, hW, b, hw, -⟩ := hE
  obtain ⟨cB, cA, k, h1, -, h3, h4, h5⟩ := arrayOverA_spec (hw _ h)
  obtain ⟨k9, h6, h7⟩ := hW.alike.2.2 _ _ h3
  exact ⟨cB, cA, k9, by rw [hW.alike.findClass]; exact h1, h6, by rw [h7]; exact h4, by rw [hW.alike.findClass]; exact h5⟩
theorem ky_E.ovI {G : ky_G} {U : State} (hE : ky_E G U) {C : String} (h : Cond.arrayOver (.object C) ∈ lw_tbl) : va_AO C U := by
  obtain ⟨-, -, -, hW, b, hw, -⟩ := hE
  exact (va_AO.of (hw _ h)).moved hW.alike
section KYMR
variable {p : Program} {l : Launch} {e : Env} {R : Room} {s : State} {m : MethodId} {args : Array Value} {below : List Frame} {meth : Method} {c : Code} {H : Heap} {locs : List Loc} {cells slots : Nat} {Q : State → Prop}
variable {cc : ByteArray} {pc : Nat} {ls : Array Slot} {rest : List Value} {A : Nat → Prop} {G : ky_G} {ws : va_W} {T : State}
theorem ky_mf_st (X : Stand p l e R s m args below meth c T locs cells slots) (cA cB : Nat) : ∀ i : Nat, Stand p l e R s m args below meth c (ky_mf T cA cB i) (locs ++ (List.range i).map (fun j => (⟨T.heap.size, j⟩ : Loc))) (cells + 1 + i) (slots + 8 + i * 6)
  | 0 => by
    have h := X.pushed (ky_mo cA T.heap.size 0)
    rw [ky_mo_sz] at h
    show Stand p l e R s m args below meth c (T.pushCell (ky_mo cA T.heap.size 0)) (locs ++ []) (cells + 1) (slots + 8)
    rw [List.append_nil]
    exact h
  | i + 1 => by
    obtain ⟨⟨a1, a2, -, -⟩, -, -⟩ := ky_mf_at T cA cB i
    have hc : ((ky_mf T cA cB i).pushCell (ky_mi cB)).heap[T.heap.size]? = some (ky_mo cA T.heap.size i) := by
      show ((ky_mf T cA cB i).heap.push _)[_]? = _
      rw [Array.getElem?_push, if_neg (by omega)]
      exact a2
    have h := ((ky_mf_st X cA cB i).pushed (ky_mi cB)).stored hc i (.ref (T.heap.size + 1 + i))
    rw [ky_mo_up, ky_mi_sz] at h
    rw [List.range_succ, List.map_append, ← List.append_assoc, show slots + 8 + (i + 1) * 6 = slots + 8 + i * 6 + 6 by omega]
    exact h
theorem ky_mst (X : Stand p l e R s m args below meth c T locs cells slots) (hexec : p.tables.exec = Jvm.exec) {own : String} {index : Nat} (hown : s.vm.findClass own = some m.cls) (hcl : (Cond.classLink own index "[[J").before args s = true) (hov : ky_ov s) (har : (Cond.arrayClass .long).before args s = true)
    {g : JFrame} (hg : g.method = m) (hdg : decode c.code g.pc = .ok (.multianewarray index 2, 4)) (hst : g.stack = .int (6 : Int32) :: .int (8 : Int32) :: rest) (hcells : cells + 9 ≤ R.cells) (hslots : slots + 56 ≤ R.slots) :
    ∃ (vm9 : Vm) (cA cB : ClassId), s.WarmedH vm9 ∧ s.vm.findClass "[[J" = some cA ∧ s.vm.findClass "[J" = some cB ∧
      Stand p l e R s m args below meth c (ky_mf (T.setVm vm9) cA cB 8) (locs ++ (List.range 8).map (fun j => (⟨T.heap.size, j⟩ : Loc))) (cells + 1 + 8) (slots + 8 + 8 * 6) ∧
      ∀ t, Steps p.tables e below ((ky_mf (T.setVm vm9) cA cB 8).setTop { g with pc := g.pc + 4, stack := .ref T.heap.size :: rest }) t → Steps p.tables e below (T.setTop g) t := by
  subst hg
  obtain ⟨cB, cA, kA, b1, b3, b4, b5⟩ := hov
  obtain ⟨cB2, kB, cc9, d1, d2, d3⟩ := Cond.arrayClass_spec har
  cases d1.symm.trans b1
  obtain ⟨c0, f1, f2⟩ := Cond.classLink_spec hown hcl e.platform (by rw [X.admits.platform])
  cases b5.symm.trans f1
  obtain ⟨g1, g2, g3⟩ := State.classEntry (e := e) X.warmed f2
  generalize T.vm.noted g.method.cls index (.cls cA) = vm9 at g1 g2 g3
  obtain ⟨kA9, i1, i2⟩ := g2.alike.2.2 _ _ b3
  obtain ⟨kB9, j1, j2⟩ := g2.alike.2.2 _ _ d2
  obtain ⟨r1, r2⟩ := X.roomAbove hcells hslots
  have X9 := X.noted g2
  refine ⟨vm9, cA, cB, g2, b5, b1, ky_mf_st X9 cA cB 8, fun t ht => ?_⟩
  have XF := ky_mf_st X9 cA cB 8
  have l1 := Launch.admits_arrayLengthLimit X.admits
  have l2 := Launch.admits_maxHeapBytes X.admits
  jvm_step X.here [hexec, hdg]
  simp only [multianewarray.sem, wp_bind', W.resolveClassAt_links (State.method?_setTop g X.here.top) g1]
  rw [W.popN, if_neg (by decide)]
  refine ⟨g, State.topJava?_setTop' (s := T.setVm vm9) g X.here.top, [.int 8, .int 6], rest, rfl, hst, ?_⟩
  simp only [List.mapM_cons, List.mapM_nil, wp_bind', wp_pure']
  refine ky_wm (k := kA9) (kc := kB9) i1 (by rw [i2]; exact b4) j1 (by rw [j2]; exact d3) (by rw [l1]; omega) (by rw [l2]; omega) (by show T.heap.size + 9 ≤ _; omega) (by show T.slotsUsed + 56 ≤ _; omega) (fun d' acts' => ?_)
  rw [show ((T.setTop g).setVm vm9).setTop { g with stack := rest } = (T.setVm vm9).setTop { g with stack := rest } from State.setTop_setTop (T.setVm vm9) g _, ky_mf_top]
  simp only [wp_bind', W.mark, W.pushRef, State.topJava?_setTop' _ XF.here.top, Option.some.injEq, exists_eq_left', State.setTop_setTop, State.heap_setTop]
  intro acts
  simp [jvm, XF.here.top]
  exact ht
abbrev ky_mL (G : ky_G) (q : Nat) (r : Nat → Nat) : va_W := [(q, .inl (G.2.1 4, 8, .inr (.inr (.inr (.inr (fun j => if j < 8 then some (r j) else none)))))), ((r 0), .inl (G.2.1 2, 6, .inr (.inl (fun _ => 0)))), ((r 1), .inl (G.2.1 2, 6, .inr (.inl (fun _ => 0)))), ((r 2), .inl (G.2.1 2, 6, .inr (.inl (fun _ => 0)))), ((r 3), .inl (G.2.1 2, 6, .inr (.inl (fun _ => 0)))), ((r 4), .inl (G.2.1 2, 6, .inr (.inl (fun _ => 0)))), ((r 5), .inl (G.2.1 2, 6, .inr (.inl (fun _ => 0)))), ((r 6), .inl (G.2.1 2, 6, .inr (.inl (fun _ => 0)))), ((r 7), .inl (G.2.1 2, 6, .inr (.inl (fun _ => 0))))]
theorem ky_mL_at {G : ky_G} {h : Nat} : ∀ (i : Nat) (x : Nat × va_E), (ky_mL G h (fun j => h + 1 + j))[i]? = some x → x.1 = h + i
  | 0, _, hx => by cases hx; rfl
  | 1, _, hx => by cases hx; show h + 1 + 0 = _; omega
  | 2, _, hx => by cases hx; show h + 1 + 1 = _; omega
  | 3, _, hx => by cases hx; show h + 1 + 2 = _; omega
  | 4, _, hx => by cases hx; show h + 1 + 3 = _; omega
  | 5, _, hx => by cases hx; show h + 1 + 4 = _; omega
  | 6, _, hx => by cases hx; show h + 1 + 5 = _; omega
  | 7, _, hx => by cases hx; show h + 1 + 6 = _; omega
  | 8, _, hx => by cases hx; show h + 1 + 7 = _; omega
  | n + 9, _, hx => by cases hx
theorem ky_mna (hexec : p.tables.exec = Jvm.exec) (hb : c.code = cc) {own : String} {index : Nat} (hown : s.vm.findClass own = some m.cls) (hcl : (Cond.classLink own index "[[J").before args s = true) (hov : ky_ov s) (har : (Cond.arrayClass .long).before args s = true)
    (hK : va_K G.1 kcl (ky_tys G.2.1) s) (hP : va_P G.1 kcl ws H) (hD : va_D A ws) {H0 : Heap} (hS : va_S A H0 H locs) (hA : ∀ q, H0.size ≤ q → A q) (hcells : cells + 9 ≤ R.cells) (hslots : slots + 56 ≤ R.slots) (hdg : decode cc pc = .ok (.multianewarray index 2, 4))
    (kk : ∀ (q : Nat) (r : Nat → Nat) (H1 : Heap) (locs1 : List Loc), va_P G.1 kcl (ws ++ ky_mL G q r) H1 → va_D A (ws ++ ky_mL G q r) → va_S A H0 H1 locs1 → W p l e R s m args below meth c H1 locs1 (cells + 9) (slots + 56) Q (F0 m (pc + 4) ls (.ref q :: rest))) : W p l e R s m args below meth c H locs cells slots Q (F0 m pc ls (.int (6 : Int32) :: .int (8 : Int32) :: rest)) := by
  subst hb
  intro T hT X
  subst hT
  obtain ⟨vm9, cA, cB, -, f1, f2, X9, st⟩ := ky_mst (g := F0 m pc ls (.int (6 : Int32) :: .int (8 : Int32) :: rest)) X hexec hown hcl hov har rfl hdg rfl hcells hslots
  have e1 : cA = G.2.1 4 := Option.some.inj (f1.symm.trans (hK.2 4 _ rfl).2)
  have e2 : cB = G.2.1 2 := Option.some.inj (f2.symm.trans (hK.2 2 _ rfl).2)
  obtain ⟨⟨a1, a2, -, -⟩, a5, a6⟩ := ky_mf_at (T.setVm vm9) cA cB 8
  have hlt : ∀ (k : Nat) (x : Nat × va_E), ws[k]? = some x → x.1 < T.heap.size := fun k x hx => (hP k x hx).lt
  generalize hF : ky_mf (T.setVm vm9) cA cB 8 = F9 at X9 st a1 a2 a5 a6
  have b1 : F9.heap.size = T.heap.size + 1 + 8 := a1
  have hP9 : va_P G.1 kcl (ws ++ ky_mL G T.heap.size (fun j => T.heap.size + 1 + j)) F9.heap := by
    refine (hP.kept (fun k x hx => a5 x.1 (hlt k x hx))).app (fun k x hx => ?_)
    have row : ∀ j : Nat, j < 8 → va_at G.1 kcl (T.heap.size + 1 + j, .inl (G.2.1 2, 6, .inr (.inl (fun _ => 0)))) F9.heap := fun j hj => by
      show F9.heap[T.heap.size + 1 + j]? = some (vp_cell _ _)
      rw [← e2]
      exact a6 j hj
    match k, hx with
    | 0, hx =>
      cases hx
      show F9.heap[T.heap.size]? = some (vp_cell _ _)
      rw [← e1]
      exact a2
    | 1, hx => cases hx; exact row 0 (by omega)
    | 2, hx => cases hx; exact row 1 (by omega)
    | 3, hx => cases hx; exact row 2 (by omega)
    | 4, hx => cases hx; exact row 3 (by omega)
    | 5, hx => cases hx; exact row 4 (by omega)
    | 6, hx => cases hx; exact row 5 (by omega)
    | 7, hx => cases hx; exact row 6 (by omega)
    | 8, hx => cases hx; exact row 7 (by omega)
    | n + 9, hx => cases hx
  have hD9 : va_D A (ws ++ ky_mL G T.heap.size (fun j => T.heap.size + 1 + j)) := by
    refine hD.app ⟨fun i j x y hi hj q => ?_, fun k x hx => hA _ ?_⟩ (fun i j x y hi hj q => ?_)
    · have h1 := ky_mL_at i x hi
      have h2 := ky_mL_at j y hj
      omega
    · have h1 := ky_mL_at k x hx
      have h2 := hS.1
      omega
    · have h1 := hlt i x hi
      have h2 := ky_mL_at j y hj
      omega
  have hS9 : va_S A H0 F9.heap (locs ++ (List.range 8).map (fun j => (⟨T.heap.size, j⟩ : Loc))) := by
    refine ⟨Nat.le_trans hS.1 (by omega), fun q h1 h2 => (a5 q (Nat.lt_of_lt_of_le h1 hS.1)).trans (hS.2.1 q h1 h2), fun x hx => ?_⟩
    rcases List.mem_append.mp hx with h | h
    · exact hS.2.2 x h
    · obtain ⟨j, -, rfl⟩ := List.mem_map.mp h
      exact hA _ hS.1
  obtain ⟨t, c1, d1⟩ := kk T.heap.size _ F9.heap _ hP9 hD9 hS9 F9 rfl X9
  exact ⟨t, st t c1, d1⟩
end KYMR
/-- a number that a constructor made is no other's -/
theorem ky_ok.ini {A N : Nat → Prop} {n x cs q : Nat} {e0 em ec eq : va_E} {ws : va_W} (hA : A = va_A [(x, e0)] n) (hN : ∀ q, N q → q < n) (hD : va_D A ws) (im ic iq : Nat) (hm : ws[im]? = some (x, em)) (hc : ws[ic]? = some (cs, ec)) (hq : ws[iq]? = some (q, eq)) (h1 : iq ≠ im) (h2 : iq ≠ ic) : ky_ok x cs N q := by
  have n1 : q ≠ x := fun z => h1 (hD.1 iq im _ _ hq hm z)
  have n2 : q ≠ cs := fun z => h2 (hD.1 iq ic _ _ hq hc z)
  refine ⟨n1, n2, fun z => ?_⟩
  have hz := hD.2 iq _ hq
  rw [hA] at hz
  rcases hz with ⟨k, e, hk⟩ | hk
  · match k, hk with
    | 0, hk => simp at hk; exact n1 hk.1.symm
    | k + 1, hk => simp at hk
  · exact absurd (hN q z) (Nat.not_lt.mpr hk)
