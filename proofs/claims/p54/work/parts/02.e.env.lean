/-! what the environment gives at any method's entry -/
theorem ky_E.narrow {G : ky_G} {U : State} (hE : ky_E G U) : ∃ b : Nat, (∀ w ∈ lw_tbl, w.before #[Value.ref b] G.2.2 = true) ∧ ∀ w ∈ flatC (Jvm.Cond.and given_1 narrow_1), w.before #[Value.ref b] G.2.2 = true := by
  obtain ⟨b, h1, h2⟩ := hE.2.2.2.2
  exact ⟨b, h1, flat_of_before _ h2⟩
theorem ky_E.lt {G : ky_G} {U : State} (hE : ky_E G U) {A : Nat → Prop} (hfr : ∀ q, A q → ky_fr G q) (a : Nat) (h : a < G.2.2.heap.size) : ¬ A a := fun z => absurd (hfr a z) (Nat.not_le.mpr h)
/-- a class can be cast, anywhere -/
theorem ky_E.cast {G : ky_G} {U : State} (hE : ky_E G U) {C T : String} (h : Cond.castable C T ∈ lw_tbl) (args : Array Value) : (Cond.castable C T).before args U = true := by
  obtain ⟨b, h1, -⟩ := hE.narrow
  exact va_any rfl (va_Nw.warmC hE.2.2.2.1 (va_any (A' := #[]) rfl (h1 _ h)))
def ky_far : Cond → Bool
  | .castable _ _ => true
  | .declares _ => true
  | _ => false
theorem ky_far_ot {w : Cond} (h : ky_far w = true) : vx_ot w = true := by
  cases w <;> first | rfl | (exact absurd h (by decide)) | (simp [ky_far] at h)
theorem ky_E.far {G : ky_G} {U : State} (hE : ky_E G U) {w : Cond} (h : w ∈ lw_tbl) (hw : ky_far w = true) (args : Array Value) : w.before args U = true := by
  cases w <;> first | cases hw | skip
  · obtain ⟨b, h1, -⟩ := hE.narrow
    exact va_any rfl (va_Nw.warmD hE.2.2.2.1 (va_any (A' := #[]) rfl (h1 _ h)))
  · exact hE.cast h args
theorem ky_E.nocast {G : ky_G} {U : State} (hE : ky_E G U) {C T : String} (h : Cond.not (Cond.castable C T) ∈ flatC (Jvm.Cond.and given_1 narrow_1)) : va_Nc C T U := by
  obtain ⟨b, -, h1⟩ := hE.narrow
  obtain ⟨c, t, k1, k2, k3⟩ := va_Nc.of (h1 _ h)
  have hA := hE.2.2.2.1.alike
  exact ⟨c, t, by rw [hA.findClass]; exact k1, by rw [hA.findClass]; exact k2, by rw [hA.assignable]; exact k3⟩
theorem ky_E.zq {G : ky_G} {U : State} (hE : ky_E G U) {A : Nat → Prop} (hfr : ∀ q, A q → ky_fr G q) {C n d : String} (h1 : Cond.laysStatic C n d ∈ lw_tbl) (h2 : Cond.initialized C ∈ lw_tbl) (h3 : Cond.isRef (.static C n d) ∈ flatC (Jvm.Cond.and given_1 narrow_1)) : vx_Zq C n d A U U.heap := by
  obtain ⟨b, k1, k2⟩ := hE.narrow
  have z := vx_Zqof (A := ky_fr G) (k1 _ h1) (k1 _ h2) (k2 _ h3) (fun a h => Nat.not_le.mpr h)
  exact ((z.kept (fun a h _ => hE.2.2.1 a h)).moved hE.2.2.2.1.alike).narrow hfr
/-- a static field of a known value -/
theorem ky_E.z {G : ky_G} {U : State} (hE : ky_E G U) {A : Nat → Prop} (hfr : ∀ q, A q → ky_fr G q) {C n d : String} {v : Value} {t : Term} (h1 : Cond.laysStatic C n d ∈ lw_tbl) (h2 : Cond.initialized C ∈ lw_tbl) (h3 : Cond.eq (.static C n d) t ∈ flatC (Jvm.Cond.and given_1 narrow_1)) (ht : ∀ (a : Array Value) (s : State), t.eval a s none [] s = some v) : va_Z C n d v A U U.heap := by
  obtain ⟨b, k1, k2⟩ := hE.narrow
  have e := k2 _ h3
  obtain ⟨w, e1, e2⟩ := Cond.eq_one (show (Cond.eq (.static C n d) t).holds #[Value.ref b] G.2.2 none G.2.2 [] = true from e)
  rw [ht] at e2
  cases e2
  have z := va_Zof (A := ky_fr G) (k1 _ h1) (k1 _ h2) e1 (fun a h => Nat.not_le.mpr h)
  exact ((z.kept (fun a h _ => hE.2.2.1 a h)).moved hE.2.2.2.1.alike).narrow hfr
/-- a String constant: where it lies -/
theorem ky_E.str {G : ky_G} {U : State} (hE : ky_E G U) {own tx : String} {k : Nat} (h1 : Cond.stringRef own k tx ∈ lw_tbl) (h2 : Cond.exactly (.string own k) "java/lang/String" ∈ flatC (Jvm.Cond.and given_1 narrow_1)) : ∃ a : Nat, vk_R own k tx a U := by
  obtain ⟨b, k1, k2⟩ := hE.narrow
  have e := k2 _ h2
  have hs := k1 _ h1
  obtain ⟨a, c, cA, kA, q1, -⟩ := Cond.exactly_spec (args := #[Value.ref b]) (first := G.2.2) (o := none) (s := G.2.2) (idx := []) (t := .string own k) (cls := "java/lang/String") e
  exact ⟨a, (vk_R.of (A := #[Value.ref b]) hs q1).warm hE.2.2.2.1⟩
/-- a static array that nobody writes -/
theorem ky_E.tab {G : ky_G} {U : State} (hE : ky_E G U) {A : Nat → Prop} (hfr : ∀ q, A q → ky_fr G q) {C n d : String} {ty : FieldType} {N : Nat} {f : Nat → Value} (h1 : Cond.laysStatic C n d ∈ lw_tbl) (h2 : Cond.initialized C ∈ lw_tbl) (hN : N < 2 ^ 31)
    (h3 : Cond.arrayOf (.static C n d) ty ∈ flatC (Jvm.Cond.and given_1 narrow_1)) (h4 : Cond.eq (.length (.static C n d)) (.int (Int32.ofNat N)) ∈ flatC (Jvm.Cond.and given_1 narrow_1))
    (hel : ∀ (a : Array Value) (s : State), (∀ w ∈ flatC (Jvm.Cond.and given_1 narrow_1), w.before a s = true) → ∀ j : Nat, j < N → (Term.elem (.static C n d) (.int (Int32.ofNat j))).eval a s none [] s = some (f j)) :
    ∃ t : Nat, va_Z C n d (.ref t) A U U.heap ∧ va_T ty t N f A U U.heap := by
  obtain ⟨b, k1, k2⟩ := hE.narrow
  obtain ⟨t, e1, hT⟩ := va_Tof (A := ky_fr G) (f := f) hN (k2 _ h3) (va_eqt (k2 _ h4)) (hel _ _ k2) (fun a h => Nat.not_le.mpr h)
  have z := va_Zof (A := ky_fr G) (k1 _ h1) (k1 _ h2) e1 (fun a h => Nat.not_le.mpr h)
  exact ⟨t, ((z.kept (fun a h _ => hE.2.2.1 a h)).moved hE.2.2.2.1.alike).narrow hfr, ((hT.kept (fun a h _ => hE.2.2.1 a h)).moved hE.2.2.2.1.alike).narrow hfr⟩
section KYX
variable {p : Program} {l : Launch} {e : Env} {R : Room} {s : State} {m : MethodId} {args : Array Value} {below : List Frame} {meth : Method} {c : Code} {H : Heap} {locs : List Loc} {cells slots : Nat}
variable {cc : ByteArray} {own : String} {nL : Nat} {ret9 : Option FieldType} {pc : Nat} {ls : Array Slot} {rest : List Value} {mc ms : Nat} {A : Nat → Prop} {G : ky_G} {Qc : Array Value → State → Outcome → State → Prop} {px : String → Prop} {wx ws : va_W}
/-- a new exception of the JDK's, with a text, thrown out of the method -/
theorem ky_throw (F : ky_F p s m meth c own cc nL ret9 args) (hno : ∀ x ∈ c.exceptionTable.toList, False) (hl9 : l.stackTraces = false) (hE : ky_E G s) (hfr : ∀ q, A q → ky_fr G q) {cls text : String} {names : List String} {ik is ic : Nat}
    (hcls : Bundle.fit cls = true) (hnames : ∀ n ∈ names, Bundle.fit n = true) (hk : Cond.classLink own ik cls ∈ ky_B) (hini : Cond.initialized cls ∈ ky_B) (h1 : Cond.stringRef own is text ∈ lw_tbl) (h2 : Cond.exactly (.string own is) "java/lang/String" ∈ flatC (Jvm.Cond.and given_1 narrow_1))
    (hat : ∀ w ∈ vx_atS own ic cls names, w ∈ lw_tbl ∧ (goodWord w || ky_far w) = true)
    (hS : va_S A s.heap H locs) (hsize : ls.size = nL)
    (d0 : decode cc pc = .ok (.new ik, 3)) (d3 : decode cc (pc + 3) = .ok (.dup, 1)) (d4 : decode cc (pc + 4) = .ok (.ldc is, 2)) (d6 : decode cc (pc + 6) = .ok (.invokespecial ic, 3)) (d9 : decode cc (pc + 9) = .ok (.athrow, 1))
    (hRframes : names.length + 3 < R.frames) (hRlocals : (rest.map fun v => v.category).sum + (13 * (names.length + 1) + 43) ≤ R.locals) (hRc : cells + 1 ≤ R.cells ∧ slots + 6 ≤ R.slots) (hmc : cells + 1 ≤ mc ∧ slots + 6 ≤ ms)
    (hP : va_P G.1 kcl wx H) (hD : va_D A wx) (hpx : px cls) : W p l e R s m args below meth c H locs cells slots (vx_MQ below Qc (ky_X G A px wx) args s mc ms A) (F0 m pc ls rest) := by
  obtain ⟨hx, hb, hml, hown, hr, hlocks, hts⟩ := F
  obtain ⟨sa, hstr⟩ := hE.str h1 h2
  have tU : Cond.laysStatic Bundle.tN "UNASSIGNED_STACK" Bundle.steD ∈ lw_tbl := by decide +kernel
  have tN : Cond.laysStatic Bundle.tN "SUPPRESSED_SENTINEL" Bundle.listD ∈ lw_tbl := by decide +kernel
  have ti : Cond.initialized Bundle.tN ∈ lw_tbl := by decide +kernel
  refine vx_throwS hx hb hl9 hown hcls hnames (hts _ hk) (hts _ hini) hstr (fun w hw => ?_) (fun w hw => ?_) (hE.zq hfr tU ti (by decide +kernel)) (hE.zq hfr tN ti (by decide +kernel)) hS (hsize.trans hml.symm) d0 d3 d4 d6 d9 (fun x h => (hno x h).elim) hRframes hRlocals hRc.1 hRc.2 hlocks (fun t ht hz hq => ?_) hS.2.2 hmc.1 hmc.2
  · obtain ⟨h1, h2⟩ := hat w hw
    rcases Bool.or_eq_true _ _ ▸ h2 with h | h
    · exact hts _ (ky_mem h1 h)
    · exact hE.far h1 h args
  · rcases List.mem_cons.mp hw with rfl | hw
    · rfl
    · rcases List.mem_cons.mp hw with rfl | hw
      · rfl
      · obtain ⟨h1, h2⟩ := hat w hw
        rcases Bool.or_eq_true _ _ ▸ h2 with h | h
        · unfold vx_ot
          rw [h, Bool.or_true]
        · exact ky_far_ot h
  · refine ⟨hpx, hP.kept (fun k q hk => hq q.1 (hP k q hk).lt), hD, Nat.le_trans hS.1 hz, fun q h1 h2 => ?_⟩
    rw [hq q (Nat.lt_of_lt_of_le h1 hS.1)]
    exact hS.2.1 q h1 h2
end KYX
