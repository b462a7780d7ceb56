/-! numbers' objects through changes of the heap -/
theorem ky_ro {G : ky_G} {a : Nat} {v : Int32 × Int64} {s : State} {A : Nat → Prop} {H : Heap} {locs : List Loc} (h : ky_It G a v s.heap) (hna : ¬ A a) (hS : va_S A s.heap H locs) : ky_It G a v H := h.keep (hS.2.1 a h.low hna)
theorem ky_It.fr {G : ky_G} {a : Nat} {v : Int32 × Int64} {H H1 : Heap} (h : ky_It G a v H) (hk : ∀ q : Nat, q < H.size → ¬ va_A [] H.size q → H1[q]? = H[q]?) : ky_It G a v H1 :=
  h.keep (hk a h.low (fun z => z.elim (fun ⟨k, e, y⟩ => by simp at y) (fun y => absurd h.low (Nat.not_lt.mpr y))))
theorem ky_fresh {sz q : Nat} (h : va_A [] sz q) : sz ≤ q := h.elim (fun ⟨k, e, y⟩ => by simp at y) id
theorem ky_nfresh {sz a : Nat} (h : a < sz) : ¬ va_A [] sz a := fun z => absurd h (Nat.not_lt.mpr (ky_fresh z))
theorem ky_startI {S : Type} {l : Launch} {y : MethodName} {cc : ByteArray} {maxL : Nat} {ret : Option FieldType} {rm : Room} {As : List Value} {G : ky_G} {wc : va_W} {sz : Nat} {EX : Heap → Prop} {mc ms : Nat} {post : Option Value → S → Prop} {w1 : S → va_W} {EX1 : S → Heap → Prop}
    (hy : plainName y.cls = true) (hlen : (lg_sl As).length ≤ maxL)
    (body : ∀ (p : Program) (e : Env) (s : State) (m : MethodId) (below : List Frame) (meth : Method) (c : Code), meth.name = y.name → ky_F p s m meth c y.cls cc maxL ret As.toArray → ky_E G s → ∀ A : Nat → Prop, A = va_A wc s.heap.size → s.heap.size = sz → (∀ q, s.heap.size ≤ q → A q) → (∀ q, A q → ky_fr G q) →
      va_P G.1 kcl wc s.heap → va_D A wc → va_S A s.heap s.heap [] → EX s.heap → ∀ ls : Array Slot, lv_has ls maxL (lv_args 0 As) →
      W p l e rm s m As.toArray below meth c s.heap [] 0 0 (MQ below (ky_Q G A post w1 EX1) As.toArray s mc ms A) (F0 m 0 ls [])) :
    Met l y (.code y cc maxL ret :: ky_B) rm (ky_P G As wc sz EX) (ky_Q G (va_A wc sz) post w1 EX1) mc ms (va_A wc sz) := by
  refine Met.ofW (cc := cc) (maxL := maxL) (ret := ret) hy rfl ?_
  intro p e s m args below meth c s₁ B hml hv
  obtain ⟨rfl, hE, hsz, hP, hD, hX⟩ := hv
  have hts := atoms_spec (ws := .code y cc maxL ret :: ky_B) B.pre
  have F : ky_F p s m meth c y.cls cc maxL ret As.toArray := ⟨B.exec, B.bytes, hml, findClass_of_methodNamed B.named, B.returns, B.notSynchronized, fun w hw => hts w (List.mem_cons_of_mem _ hw)⟩
  have hl := lv_entry As (n := maxL) hlen
  rw [lg_entry_eq]
  subst hsz
  exact body p e s m below meth c (name_of_methodNamed B.named B.method).1 F hE _ rfl rfl (fun q h => Or.inr h) (fun q h => h.elim (fun ⟨k, ee, z⟩ => hD.2 k _ z) (fun z => Nat.le_trans hE.2.1 z)) hP hD.self va_S.rf hX _ hl
/-- a number's row in an array of them -/
theorem ky_rf {f : Nat → Option Nat} {i a : Nat} (h : f i = some a) : va_rf (f i) = .ref a := by rw [h]; rfl
theorem ky_or {q r b sz n : Nat} (h1 : r = b ∨ sz ≤ r) (h2 : sz ≤ n) (h3 : q = r ∨ n ≤ q) : q = b ∨ sz ≤ q := by
  rcases h3 with rfl | h
  · exact h1
  · exact Or.inr (Nat.le_trans h2 h)
theorem ky_E.nestM {G : ky_G} {U : State} (hE : ky_E G U) {own : String} {i : Nat} {y : MethodName} {host : String} (h : Cond.methodLinkNest own i y host ∈ lw_tbl) : va_Nw (.methodLinkNest own i y host) U := by
  obtain ⟨b, h1, -⟩ := hE.narrow
  exact va_Nw.warmM hE.2.2.2.1 (va_any (A' := #[]) rfl (h1 _ h))
theorem ky_E.nestF {G : ky_G} {U : State} (hE : ky_E G U) {own : String} {i : Nat} {b n d host : String} (h : Cond.fieldLinkNest own i b n d host ∈ lw_tbl) : va_Nw (.fieldLinkNest own i b n d host) U := by
  obtain ⟨b, h1, -⟩ := hE.narrow
  exact va_Nw.warmF hE.2.2.2.1 (va_any (A' := #[]) rfl (h1 _ h))
def ky_wN (own : String) (index : Nat) (y : MethodName) (host : String) (bytes : ByteArray) (maxL : Nat) (ret : Option FieldType) (n : Nat) : Prop :=
  Cond.methodLinkNest own index y host ∈ lw_tbl ∧ Cond.static y ∈ ky_B ∧ Cond.initialized y.cls ∈ ky_B ∧ Cond.code y bytes maxL ret ∈ ky_B ∧ y.cls ≠ "java/lang/invoke/MethodHandle" ∧ y.cls ≠ "java/lang/invoke/VarHandle" ∧ (parseMethodDescriptor y.desc).map (fun d => d.parameters.length) = some n
section KYN
variable {p : Program} {l : Launch} {e : Env} {R : Room} {s : State} {m : MethodId} {args : Array Value} {below : List Frame} {meth : Method} {c : Code} {H : Heap} {locs : List Loc} {cells slots : Nat} {Q : State → Prop}
variable {cc : ByteArray} {own : String} {nL : Nat} {ret9 : Option FieldType} {pc : Nat} {ls : Array Slot} {rest st : List Value} {G : ky_G}
/-- a pure private static method of the class around -/
theorem ky_cN0 {y : MethodName} {host : String} {bytes : ByteArray} {maxL n index : Nat} {ret : Option FieldType} {rm : Room} {As : List Value} {v : Value} (F : ky_F p s m meth c own cc nL ret9 args) (hE : ky_E G s)
    (hM : Met l y (.code y bytes maxL ret :: ky_B) rm (ky_P0 As) (ky_Q0 (some v)) 0 0 (fun _ => False)) (w : ky_wN own index y host bytes maxL ret n)
    (hR : (rm.cells = 0 ∧ rm.slots = 0) ∧ rm.frames + 1 ≤ R.frames ∧ 8 + (maxL + 11) + rm.locals ≤ R.locals) (hn : As.length = n) (hl : ls.size = nL) (hst : st = As.reverse ++ rest) (hcat : (rest.map fun v => v.category).sum ≤ 8) (hf : cells ≤ R.cells ∧ slots ≤ R.slots)
    (hdg : decode cc pc = .ok (.invokestatic index, 3)) (kk : W p l e R s m args below meth c H locs cells slots Q (F0 m (pc + 3) ls (v :: rest))) : W p l e R s m args below meth c H locs cells slots Q (F0 m pc ls st) := by
  obtain ⟨hx, hb, hml, hown, -, -, hts⟩ := F
  have hr := va_runSN (l := l) (e := e) (R := R) (below := below) (meth := meth) (H := H) (locs := locs) (cells := cells) (slots := slots) (mc := 0) (ms := 0) (g := F0 m pc ls st) (rest := rest) (As := As) ⟨hx, hb, hml, hown, hts⟩ hM
    ⟨va_cnB (rm := rm) (ws' := ky_B) n hts (ky_in (fun w9 hw9 => (List.mem_cons.mp hw9).elim (fun z => z ▸ w.2.2.2.1) (fun z => z))) rfl hR.1.1 hR.1.2 (hE.nestM w.1) (hts _ w.2.2.1) ⟨w.2.2.2.2.1, w.2.2.2.2.2.1, w.2.2.2.2.2.2⟩ hR.2, hts _ w.2.1, trivial⟩ ⟨fun _ _ _ _ h => h, fun _ _ _ => rfl⟩ rfl hn hl hst (lv_room hcat) hdg hf
  intro T hT X
  obtain ⟨v1, st₀, t, T', L, h0, X', hL, e1, -, ⟨hv, hh⟩, sg⟩ := hr T hT X
  cases hv
  obtain ⟨t2, a1, b1⟩ := kk T' (by rw [e1, hh, h0]) (Stand.forget X' (fun q h => (hL q h).elim))
  exact ⟨t2, sg t2 a1, b1⟩
end KYN
