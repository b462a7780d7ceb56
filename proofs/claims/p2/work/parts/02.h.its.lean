/-! numbers' objects through changes of the heap -/
theorem ky_ro {G : ky_G} {a : Nat} {v : Int32 × Int64} {s : State} {A : Nat → Prop} {H : Heap} {locs : List Loc} (h : ky_It G a v s.heap) (hna : ¬ A a) (hS : va_S A s.heap H locs) : ky_It G a v H := h.keep (hS.2.1 a h.low hna)
theorem ky_It.fr {G : ky_G} {a : Nat} {v : Int32 × Int64} {H H1 : Heap} (h : ky_It G a v H) (hk : ∀ q : Nat, q < H.size → ¬ va_A [] H.size q → H1[q]? = H[q]?) : ky_It G a v H1 :=
  h.keep (hk a h.low (fun z => z.elim (fun ⟨k, e, y⟩ => by simp at y) (fun y => absurd h.low (Nat.not_lt.mpr y))))
theorem ky_fresh {sz q : Nat} (h : va_A [] sz q) : sz ≤ q := h.elim (fun ⟨k, e, y⟩ => by simp at y) id
theorem ky_nfresh {sz a : Nat} (h : a < sz) : ¬ va_A [] sz a := fun z => absurd h (Nat.not_lt.mpr (ky_fresh z))
theorem ky_startI {S : Type} {l : Launch} {y : MethodName} {cc : ByteArray} {maxL : Nat} {ret : Option FieldType} {rm : Room} {As : List Value} {G : ky_G} {wc : va_W} {sz : Nat} {EX : Heap → Prop} {mc ms : Nat} {post : Option Value → S → Prop} {w1 : S → va_W} {EX1 : S → Heap → Prop}
    (hy : plainName y.cls = true) (hlen : (lg_sl As).length ≤ maxL)
    (body : ∀ (p : Program) (e : Env) (s : State) (m : MethodId) (below : List Frame) (meth : Method) (c : Code), meth.name = y.name → ky_F p s m meth c y.cls cc maxL ret As.toArray → ky_E G s → ∀ A : Nat → Prop, A = va_A wc s.heap.size → s.heap.size = sz → (∀ q, s.heap.size ≤ q → A q) → (∀ q, A q → ky_fr G q) →
      va_P G.1 kcl wc s.heap → va_D A wc → va_S A s.heap s.heap [] → EX s.heap → ∀ ls : Array Slot, lv_has ls maxL (lv_args 0 As) →
      W p l e rm s m As.toArray below meth c s.heap [] 0 0 (MQ below (ky_Q G A post w1 EX1) As.toArray s mc ms A) (F0 m 0 ls [])) :
    Met l y (.code y cc maxL ret :: ky_B) rm (ky_P G As wc sz EX) (ky_Q G (va_A wc sz) post w1 EX1) mc ms (va_A wc sz) := by
  refine Met.ofW (cc := cc) (maxL := maxL) (ret := ret) hy rfl ?_
  intro p e s m args below meth c s₁ B hml hv
  obtain ⟨rfl, hE, hsz, hP, hD, hX⟩ := hv
  have hts := atoms_spec (ws := .code y cc maxL ret :: ky_B) B.pre
  have F : ky_F p s m meth c y.cls cc maxL ret As.toArray := ⟨B.exec, B.bytes, hml, findClass_of_methodNamed B.named, B.returns, B.notSynchronized, fun w hw => hts w (List.mem_cons_of_mem _ hw)⟩
  have hl := lv_entry As (n := maxL) hlen
  rw [lg_entry_eq]
  subst hsz
  exact body p e s m below meth c (name_of_methodNamed B.named B.method).1 F hE _ rfl rfl (fun q h => Or.inr h) (fun q h => h.elim (fun ⟨k, ee, z⟩ => hD.2 k _ z) (fun z => Nat.le_trans hE.2.1 z)) hP hD.self va_S.rf hX _ hl
/-- a number's row in an array of them -/
theorem ky_rf {f : Nat → Option Nat} {i a : Nat} (h : f i = some a) : va_rf (f i) = .ref a := by rw [h]; rfl
