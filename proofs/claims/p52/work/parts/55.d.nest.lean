section KYIN
variable {p : Program} {l : Launch} {e : Env} {R : Room} {s : State} {m : MethodId} {args : Array Value} {below : List Frame} {meth : Method} {c : Code} {H : Heap} {locs : List Loc} {cells slots : Nat} {Q : State → Prop}
variable {cc : ByteArray} {own host : String} {nL : Nat} {ret9 : Option FieldType} {pc : Nat} {ls : Array Slot} {rest st : List Value} {mc ms : Nat} {A : Nat → Prop} {G : ky_G}
variable {y : MethodName} {bytes : ByteArray} {maxL n index : Nat} {rm : Room} {As : List Value} {b : Nat}
theorem ky_cINh {S : Type} {EX : Heap → Prop} {post : Option Value → S → Prop} {w1 : S → va_W} {EX1 : S → Heap → Prop} {ws wc wr : va_W} (F : ky_F p s m meth c own cc nL ret9 args) (hE : ky_E G s) (hEc : ∀ U : State, U.heap = H → s.WarmedH U.vm → ky_E G U) (hfr : ∀ q, A q → ky_fr G q)
    (hM : Met l y (.code y bytes maxL none :: ky_B) rm (ky_P G (.ref b :: As) wc H.size EX) (ky_Q G (va_A wc H.size) post w1 EX1) mc ms (va_A wc H.size)) (hlk : Cond.methodLinkNest own index y host ∈ lw_tbl) (hin : Cond.instanceMethod y ∈ ky_B) (hini : Cond.initialized y.cls ∈ ky_B) (hco : Cond.code y bytes maxL none ∈ ky_B) (hnm : y.name = "<init>") (hy : y.cls ≠ "java/lang/invoke/MethodHandle" ∧ y.cls ≠ "java/lang/invoke/VarHandle" ∧ (parseMethodDescriptor y.desc).map (fun d => d.parameters.length) = some n)
    (hR : (rm.cells = mc ∧ rm.slots = ms) ∧ rm.frames + 1 ≤ R.frames ∧ 8 + (maxL + 11) + rm.locals ≤ R.locals) (hn : As.length = n) (hl : ls.size = nL) (hst : st = As.reverse ++ .ref b :: rest) (hcat : (rest.map fun v => v.category).sum ≤ 8) (hf : cells + mc ≤ R.cells ∧ slots + ms ≤ R.slots)
    (hEX : EX H) (hP : va_P G.1 kcl ws H) (hD : va_D A ws) (hS : va_S A s.heap H locs) (hA : ∀ q, s.heap.size ≤ q → A q)
    (isC isR : List Nat) (hC : isC.map (fun i => ws[i]?) = wc.map some) (hRr : isR.map (fun i => ws[i]?) = wr.map some) (hnC : va_nd isC = true) (hnR : va_nd isR = true) (hdis : ∀ i ∈ isR, i ∉ isC)
    (hdg : decode cc pc = .ok (.invokespecial index, 3))
    (kk : ∀ (v : Option Value) (u : S) (H1 : Heap) (locs1 : List Loc), post v u → va_P G.1 kcl (wr ++ w1 u) H1 → va_D A (wr ++ w1 u) → va_S A s.heap H1 locs1 → EX1 u H1 → H.size ≤ H1.size → (∀ q : Nat, q < H.size → ¬ va_A wc H.size q → H1[q]? = H[q]?) →
      W p l e R s m args below meth c H1 locs1 (cells + mc) (slots + ms) Q (F0 m (pc + 3) ls (v.toList ++ rest))) : W p l e R s m args below meth c H locs cells slots Q (F0 m pc ls st) := by
  obtain ⟨hx, hb, hml, hown, -, -, hts⟩ := F
  have hPc : va_P G.1 kcl wc H := hP.by (fun k => (isC[k]?).getD 0) (fun k q hk => ky_pick hC hk)
  have hDc : va_D (ky_fr G) wc := (hD.sub isC hnC hC).weaken (fun _ _ _ z => hfr _ z)
  have hr := va_runIN (l := l) (e := e) (R := R) (below := below) (meth := meth) (H := H) (locs := locs) (cells := cells) (slots := slots) (mc := mc) (ms := ms) (g := F0 m pc ls st) (rest := rest) (As := As) (b := b) ⟨hx, hb, hml, hown, hts⟩ hM
    ⟨va_cnB (rm := rm) (ws' := ky_B) n hts (ky_in (fun w9 hw9 => (List.mem_cons.mp hw9).elim (fun z => z ▸ hco) (fun z => z))) rfl hR.1.1 hR.1.2 (hE.nestM hlk) (hts _ hini) hy hR.2, hnm, hts _ hin⟩ ⟨ky_P.blind, fun U hU hW => ⟨rfl, hEc U hU hW, by rw [hU], by rw [hU]; exact hPc, hDc, by rw [hU]; exact hEX⟩⟩ rfl hn hl hst (lv_room hcat) hdg hf
  exact ky_run hr hP hD hS hA isC isR hC hRr hnR hdis kk
end KYIN
/-! the loop's end -/
theorem lp_cond {L k : Nat} (hL : L ≤ 2048) (hk : 4 * k ≤ L) : (Int32.ofNat L - 4 < nI (4 * k)) ↔ ¬ 4 * k + 4 ≤ L := by
  rw [Int32.lt_iff_toInt_lt, nI_toInt (by omega)]
  have e : (Int32.ofNat L - 4).toInt = (L : Int) - 4 := by
    rw [Int32.toInt_sub, show (Int32.ofNat L).toInt = (L : Int) from nI_toInt (n := L) (by omega), show (4 : Int32).toInt = 4 from rfl]
    rw [Int.bmod_def]
    omega
  rw [e]
  omega
theorem lp_4 (k : Nat) : nI (4 * k) + 4 = nI (4 * (k + 1)) := nI_add (4 * k) 4
theorem lp_in {L k : Nat} (n : Nat) (hn : n < 4) (h : 4 * k + 4 ≤ L) (hL : L ≤ 2048) : vp_in (nI (4 * k) + nI n) L := by
  rw [nI_add]
  exact vp_in_nI (by omega) (by omega)
