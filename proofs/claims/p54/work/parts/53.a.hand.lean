/-! methods with handlers that let nothing through -/
theorem ky_startH {S : Type} {l : Launch} {y : MethodName} {cc : ByteArray} {maxL : Nat} {ret : Option FieldType} {hh : List (Nat × Nat × Nat × Nat)} {rm : Room} {As : List Value} {G : ky_G} {wc : va_W} {sz : Nat} {EX : Heap → Prop} {mc ms : Nat} {post : Option Value → S → Prop} {w1 : S → va_W} {EX1 : S → Heap → Prop}
    (hy : plainName y.cls = true) (hlen : (lg_sl As).length ≤ maxL)
    (body : ∀ (p : Program) (e : Env) (s : State) (m : MethodId) (below : List Frame) (meth : Method) (c : Code), ky_F p s m meth c y.cls cc maxL ret As.toArray → c.exceptionTable.toList = tableOf hh → ky_E G s → ∀ A : Nat → Prop, A = va_A wc s.heap.size → s.heap.size = sz → (∀ q, s.heap.size ≤ q → A q) → (∀ q, A q → ky_fr G q) →
      va_P G.1 kcl wc s.heap → va_D A wc → va_S A s.heap s.heap [] → EX s.heap → ∀ ls : Array Slot, lv_has ls maxL (lv_args 0 As) →
      W p l e rm s m As.toArray below meth c s.heap [] 0 0 (MQ below (ky_Q G A post w1 EX1) As.toArray s mc ms A) (F0 m 0 ls [])) :
    Met l y (.codeWith y cc maxL ret hh :: ky_B) rm (ky_P G As wc sz EX) (ky_Q G (va_A wc sz) post w1 EX1) mc ms (va_A wc sz) := by
  refine MetFree.of_bodyS (code := cc) (maxLocals := maxL) (ret := ret) hy (fun args s m h hn => ?_) (fun p e s m args below meth c s₁ B hml hv _ => ?_)
  · obtain ⟨m9, meth, c, hn9, h1, h2, h3, h4, -, h5, h6, -⟩ := Cond.codeWith_spec (atoms_spec (ws := .codeWith y cc maxL ret hh :: ky_B) h _ List.mem_cons_self)
    cases hn.symm.trans hn9
    exact ⟨meth, c, h1, h2, h3, h4, h5, h6⟩
  · obtain ⟨rfl, hE, hsz, hP, hD, hX⟩ := hv
    have hts := atoms_spec (ws := .codeWith y cc maxL ret hh :: ky_B) B.pre
    have F : ky_F p s m meth c y.cls cc maxL ret As.toArray := ⟨B.exec, B.bytes, hml, findClass_of_methodNamed B.named, B.returns, B.notSynchronized, fun w hw => hts w (List.mem_cons_of_mem _ hw)⟩
    have hT := vx_table (x := y) B (hts _ List.mem_cons_self)
    have hl := lv_entry As (n := maxL) hlen
    subst hsz
    have hb := body p e s m below meth c F hT hE _ rfl rfl (fun q h => Or.inr h) (fun q h => h.elim (fun ⟨k, ee, z⟩ => hD.2 k _ z) (fun z => Nat.le_trans hE.2.1 z)) hP hD.self va_S.rf hX _ hl
    have h0 : s₁.heap = s.heap := by rw [B.state]; rfl
    rw [← lg_entry_eq] at hb
    obtain ⟨t, a1, o, b1, b2, b3⟩ := hb s₁ h0 (Stand.of_body B)
    exact ⟨t, o, a1, b1, b2, ⟨b3.1, b3.2⟩⟩
def ky_wH (own : String) (index : Nat) (y : MethodName) (bytes : ByteArray) (maxL : Nat) (ret : Option FieldType) (hh : List (Nat × Nat × Nat × Nat)) (n : Nat) : Prop :=
  Cond.methodLink own index y ∈ ky_B ∧ Cond.static y ∈ ky_B ∧ Cond.initialized y.cls ∈ ky_B ∧ Cond.codeWith y bytes maxL ret hh ∈ ky_B ∧ y.cls ≠ "java/lang/invoke/MethodHandle" ∧ y.cls ≠ "java/lang/invoke/VarHandle" ∧ (parseMethodDescriptor y.desc).map (fun d => d.parameters.length) = some n
theorem ky_wH.good {own : String} {index : Nat} {y : MethodName} {bytes : ByteArray} {maxL : Nat} {ret : Option FieldType} {hh : List (Nat × Nat × Nat × Nat)} {n : Nat} (h : ky_wH own index y bytes maxL ret hh n) : GoodIn ky_B (va_wsS own index y (.codeWith y bytes maxL ret hh :: ky_B)) := by
  obtain ⟨h1, h2, h3, h4, -⟩ := h
  refine ky_in (fun w hw => ?_)
  simp only [va_wsS, List.mem_append, List.mem_cons, List.not_mem_nil, or_false] at hw
  rcases hw with (rfl | rfl | rfl) | rfl | hw
  · exact h1
  · exact h2
  · exact h3
  · exact h4
  · exact hw
section KYH
variable {p : Program} {l : Launch} {e : Env} {R : Room} {s : State} {m : MethodId} {args : Array Value} {below : List Frame} {meth : Method} {c : Code} {H : Heap} {locs : List Loc} {cells slots : Nat} {Q : State → Prop}
variable {cc : ByteArray} {own : String} {nL : Nat} {ret9 : Option FieldType} {pc : Nat} {ls : Array Slot} {rest st : List Value} {mc ms : Nat} {A : Nat → Prop} {G : ky_G}
variable {y : MethodName} {bytes : ByteArray} {maxL n index : Nat} {ret : Option FieldType} {rm : Room} {As : List Value} {hh : List (Nat × Nat × Nat × Nat)}
theorem ky_cSH {S : Type} {EX : Heap → Prop} {post : Option Value → S → Prop} {w1 : S → va_W} {EX1 : S → Heap → Prop} {ws wc wr : va_W} (F : ky_F p s m meth c own cc nL ret9 args) (hEc : ∀ U : State, U.heap = H → s.WarmedH U.vm → ky_E G U) (hfr : ∀ q, A q → ky_fr G q)
    (hM : Met l y (.codeWith y bytes maxL ret hh :: ky_B) rm (ky_P G As wc H.size EX) (ky_Q G (va_A wc H.size) post w1 EX1) mc ms (va_A wc H.size)) (w : ky_wH own index y bytes maxL ret hh n)
    (hR : (rm.cells = mc ∧ rm.slots = ms) ∧ rm.frames + 1 ≤ R.frames ∧ 8 + (maxL + 11) + rm.locals ≤ R.locals) (hn : As.length = n) (hl : ls.size = nL) (hst : st = As.reverse ++ rest) (hcat : (rest.map fun v => v.category).sum ≤ 8) (hf : cells + mc ≤ R.cells ∧ slots + ms ≤ R.slots)
    (hEX : EX H) (hP : va_P G.1 kcl ws H) (hD : va_D A ws) (hS : va_S A s.heap H locs) (hA : ∀ q, s.heap.size ≤ q → A q)
    (isC isR : List Nat) (hC : isC.map (fun i => ws[i]?) = wc.map some) (hRr : isR.map (fun i => ws[i]?) = wr.map some) (hnC : va_nd isC = true) (hnR : va_nd isR = true) (hdis : ∀ i ∈ isR, i ∉ isC)
    (hdg : decode cc pc = .ok (.invokestatic index, 3))
    (kk : ∀ (v : Option Value) (u : S) (H1 : Heap) (locs1 : List Loc), post v u → va_P G.1 kcl (wr ++ w1 u) H1 → va_D A (wr ++ w1 u) → va_S A s.heap H1 locs1 → EX1 u H1 → H.size ≤ H1.size → (∀ q : Nat, q < H.size → ¬ va_A wc H.size q → H1[q]? = H[q]?) →
      W p l e R s m args below meth c H1 locs1 (cells + mc) (slots + ms) Q (F0 m (pc + 3) ls (v.toList ++ rest))) : W p l e R s m args below meth c H locs cells slots Q (F0 m pc ls st) := by
  obtain ⟨hx, hb, hml, hown, -, -, hts⟩ := F
  have hPc : va_P G.1 kcl wc H := hP.by (fun k => (isC[k]?).getD 0) (fun k q hk => ky_pick hC hk)
  have hDc : va_D (ky_fr G) wc := (hD.sub isC hnC hC).weaken (fun _ _ _ z => hfr _ z)
  have hr := vx_runSW (l := l) (e := e) (R := R) (below := below) (meth := meth) (H := H) (locs := locs) (cells := cells) (slots := slots) (mc := mc) (ms := ms) (g := F0 m pc ls st) (rest := rest) (As := As) ⟨hx, hb, hml, hown, hts⟩ hM
    (vx_cwSW (rm := rm) (ws' := ky_B) n hts w.good rfl hR.1.1 hR.1.2 ⟨w.2.2.2.2.1, w.2.2.2.2.2.1, w.2.2.2.2.2.2⟩ hR.2) ⟨ky_P.blind, fun U hU hW => ⟨rfl, hEc U hU hW, by rw [hU], by rw [hU]; exact hPc, hDc, by rw [hU]; exact hEX⟩⟩ rfl hn hl hst (lv_room hcat) hdg hf
  exact ky_run hr hP hD hS hA isC isR hC hRr hnR hdis kk
/-- the first handler takes it -/
theorem ky_cat1 {hh9 : List (Nat × Nat × Nat × Nat)} {h1 : Nat × Nat × Nat × Nat} {name E : String} {ce : Cell} {q : Addr} (hE : ky_E G s) (hown : s.vm.findClass own = some m.cls) (hT : c.exceptionTable.toList = tableOf (h1 :: hh9)) (hcov : covers ⟨h1.1, h1.2.1, h1.2.2.1, h1.2.2.2⟩ pc = true) (h0 : h1.2.2.2 ≠ 0)
    (hlink : (Cond.classLink own h1.2.2.2 name).before args s = true) (hcast : Cond.castable name name ∈ lw_tbl) (he : E = name) (hcell : H[q]? = some ce) (hv : ce.vm = .none) (hcl : s.vm.findClass E = some ce.cls)
    (kk : W p l e R s m args below meth c H locs cells slots Q (F0 m h1.2.2.1 ls [.ref q])) : vx_W p l e R s m args below meth c H locs cells slots Q (F0 m pc ls rest) q := by
  subst he
  exact vx_catch hown [] _ (tableOf hh9) hT (fun z hz => absurd hz List.not_mem_nil) hcov h0 hlink (hE.cast hcast args) hcell hv hcl kk
/-- the second handler takes it, and the first is for another class -/
theorem ky_cat2 {hh9 : List (Nat × Nat × Nat × Nat)} {h1 h2 : Nat × Nat × Nat × Nat} {nm1 name E : String} {ce : Cell} {q : Addr} (hE : ky_E G s) (hown : s.vm.findClass own = some m.cls) (hT : c.exceptionTable.toList = tableOf (h1 :: h2 :: hh9)) (hcov : covers ⟨h2.1, h2.2.1, h2.2.2.1, h2.2.2.2⟩ pc = true) (h01 : h1.2.2.2 ≠ 0) (h0 : h2.2.2.2 ≠ 0)
    (hl1 : (Cond.classLink own h1.2.2.2 nm1).before args s = true) (hno : Cond.not (Cond.castable name nm1) ∈ flatC (Jvm.Cond.and given_1 narrow_1)) (hlink : (Cond.classLink own h2.2.2.2 name).before args s = true) (hcast : Cond.castable name name ∈ lw_tbl) (he : E = name) (hcell : H[q]? = some ce) (hv : ce.vm = .none) (hcl : s.vm.findClass E = some ce.cls)
    (kk : W p l e R s m args below meth c H locs cells slots Q (F0 m h2.2.2.1 ls [.ref q])) : vx_W p l e R s m args below meth c H locs cells slots Q (F0 m pc ls rest) q := by
  subst he
  exact vx_catch hown [_] _ (tableOf hh9) hT (fun z hz => by rw [List.mem_singleton] at hz; subst hz; exact Or.inr ⟨h01, nm1, hl1, hE.nocast hno⟩) hcov h0 hlink (hE.cast hcast args) hcell hv hcl kk
end KYH
/-! which exceptions a method knows -/
def ky_only {α : Type} (P : String → Prop) (x : Sum String α) : Prop := ∀ E, x = .inl E → P E
theorem ky_only.ok {α : Type} {P : String → Prop} {a : α} : ky_only P (.inr a : Sum String α) := fun _ h => by cases h
theorem ky_only.no {α : Type} {P : String → Prop} {E : String} (h : P E) : ky_only P (.inl E : Sum String α) := fun _ q => by cases q; exact h
theorem ky_only.bi {α β γ : Type} {P : String → Prop} {x : Sum String (α × β)} {k : α → β → Sum String γ} (h : ky_only P x) (hk : ∀ a b, ky_only P (k a b)) : ky_only P (ky_b x k) := by
  cases x with
  | inl e => exact ky_only.no (h e rfl)
  | inr a => exact hk a.1 a.2
theorem ky_only.if {α : Type} {P : String → Prop} {b : Prop} [Decidable b] {x y : Sum String α} (hx : ky_only P x) (hy : ky_only P y) : ky_only P (if b then x else y) := by
  by_cases h : b
  · rw [if_pos h]; exact hx
  · rw [if_neg h]; exact hy
def ky_io (E : String) : Prop := E = "java/lang/IndexOutOfBoundsException"
def ky_ia (E : String) : Prop := E = "java/lang/IndexOutOfBoundsException" ∨ E = "java/lang/IllegalArgumentException"
def ky_ig (E : String) : Prop := E = "java/lang/IllegalArgumentException"
/-! what a wrapper of the law answers, and leaves -/
def ky_lw (x : Sum String (Int32 × ky_BS)) (u : ky_BS) (nn : Int64) : Int32 × ky_BS × Int64 := match x with
  | .inl E => (if E = "java/lang/IndexOutOfBoundsException" then 1 else 2, u, nn)
  | .inr a => (0, a.2, a.1.toInt64)
def ky_lwb (x : Sum String (Int32 × ky_BS)) (u : ky_BS) (nn : Int64) : Int32 × ky_BS × Int64 := match x with
  | .inl E => (if E = "java/lang/IndexOutOfBoundsException" then 1 else 2, u, nn)
  | .inr a => (0, a.2, if a.1 = 0 then 0 else 1)
abbrev ky_WO (o : Nat) (nn : Int64) (sv : Value) : va_W := [(o, .inr (3, [.long nn, sv]))]
theorem ky_lw_ok {r : Int32} {w u : ky_BS} {nn : Int64} : ky_lw (.inr (r, w)) u nn = (0, w, r.toInt64) := rfl
theorem ky_lwb_ok {r : Int32} {w u : ky_BS} {nn : Int64} : ky_lwb (.inr (r, w)) u nn = (0, w, if r = 0 then 0 else 1) := rfl
theorem ky_lw_io {u : ky_BS} {nn : Int64} : ky_lw (.inl "java/lang/IndexOutOfBoundsException") u nn = (1, u, nn) := by
  show ((if ("java/lang/IndexOutOfBoundsException" : String) = "java/lang/IndexOutOfBoundsException" then (1 : Int32) else 2), u, nn) = _
  rw [if_pos rfl]
theorem ky_lwb_io {u : ky_BS} {nn : Int64} : ky_lwb (.inl "java/lang/IndexOutOfBoundsException") u nn = (1, u, nn) := by
  show ((if ("java/lang/IndexOutOfBoundsException" : String) = "java/lang/IndexOutOfBoundsException" then (1 : Int32) else 2), u, nn) = _
  rw [if_pos rfl]
theorem ky_lw_ia {u : ky_BS} {nn : Int64} : ky_lw (.inl "java/lang/IllegalArgumentException") u nn = (2, u, nn) := by
  show ((if ("java/lang/IllegalArgumentException" : String) = "java/lang/IndexOutOfBoundsException" then (1 : Int32) else 2), u, nn) = _
  rw [if_neg (by decide)]
theorem ky_lwb_ia {u : ky_BS} {nn : Int64} : ky_lwb (.inl "java/lang/IllegalArgumentException") u nn = (2, u, nn) := by
  show ((if ("java/lang/IllegalArgumentException" : String) = "java/lang/IndexOutOfBoundsException" then (1 : Int32) else 2), u, nn) = _
  rw [if_neg (by decide)]
theorem ky_only.mono {α : Type} {P P2 : String → Prop} {x : Sum String α} (h : ky_only P x) (hp : ∀ E, P E → P2 E) : ky_only P2 x := fun E q => hp E (h E q)
theorem on_cell (a : Int32) : ky_only ky_io (fn_X6_requireCell a) := by
  unfold fn_X6_requireCell
  exact ky_only.if (ky_only.no rfl) (ky_only.if ky_only.ok (ky_only.no rfl))
theorem on_cellA (a : Int32) : ky_only ky_ia (fn_X6_requireCell a) := (on_cell a).mono (fun _ h => Or.inl h)
theorem on_both (a b : Int32) : ky_only ky_io (fn_X6_requireBoth a b) := by
  unfold fn_X6_requireBoth
  exact (on_cell a).bi (fun _ _ => (on_cell b).bi (fun _ _ => ky_only.ok))
theorem on_bothA (a b : Int32) : ky_only ky_ia (fn_X6_requireBoth a b) := (on_both a b).mono (fun _ h => Or.inl h)
theorem on_within (a b c : Int32) : ky_only ky_ig (fn_X6_requireWithin a b c) := by
  unfold fn_X6_requireWithin
  exact ky_only.if (ky_only.no rfl) (ky_only.if ky_only.ok (ky_only.no rfl))
theorem on_withinA (a b c : Int32) : ky_only ky_ia (fn_X6_requireWithin a b c) := (on_within a b c).mono (fun _ h => Or.inr h)
theorem ky_noia : Cond.not (Cond.castable "java/lang/IllegalArgumentException" "java/lang/IndexOutOfBoundsException") ∈ flatC (Jvm.Cond.and given_1 narrow_1) := by decide +kernel
def ky_lw1 (x : Sum String (Int32 × ky_BS)) (u : ky_BS) (nn : Int64) : Int32 × ky_BS × Int64 := match x with
  | .inl _ => (1, u, nn)
  | .inr a => (0, a.2, a.1.toInt64)
theorem ky_lw1_ok {r : Int32} {w u : ky_BS} {nn : Int64} : ky_lw1 (.inr (r, w)) u nn = (0, w, r.toInt64) := rfl
theorem ky_lw1_ia {u : ky_BS} {nn : Int64} {E : String} : ky_lw1 (.inl E) u nn = (1, u, nn) := rfl
