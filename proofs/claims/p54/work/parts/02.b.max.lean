section KYM
variable {p : Program} {l : Launch} {e : Env} {R : Room} {s : State} {m : MethodId} {args : Array Value} {below : List Frame} {meth : Method} {c : Code} {H : Heap} {locs : List Loc} {cells slots : Nat} {Q : State → Prop}
variable {cc : ByteArray} {own : String} {nL : Nat} {ret9 : Option FieldType} {pc : Nat} {ls : Array Slot} {rest st : List Value}
def jimax (x y : Int32) : Int32 := if x < y then y else x
theorem ky_imax {index : Nat} (F : ky_F p s m meth c own cc nL ret9 args) (w : Cond.methodLink own index Lib.Math.max.name ∈ ky_B ∧ Cond.static Lib.Math.max.name ∈ ky_B ∧ Cond.initialized "java/lang/Math" ∈ ky_B ∧ Cond.code Lib.Math.max.name Lib.Math.max.code 2 (some .int) ∈ ky_B)
    (hl : ls.size = nL) (hfr : 1 ≤ R.frames) (hlo : (rest.map fun v => v.category).sum + 13 ≤ R.locals) (hf : cells ≤ R.cells ∧ slots ≤ R.slots) {x y : Int32} (hdg : decode cc pc = .ok (.invokestatic index, 3))
    (kk : W p l e R s m args below meth c H locs cells slots Q (F0 m (pc + 3) ls (.int (jimax x y) :: rest))) : W p l e R s m args below meth c H locs cells slots Q (F0 m pc ls (.int y :: .int x :: rest)) := by
  obtain ⟨hx, hb, hml, hown, -, -, hts⟩ := F
  refine va_mmax hx hb (hml.trans hl.symm) hown (hts _ w.1) (hts _ w.2.1) (hts _ w.2.2.1) (hts _ w.2.2.2) hfr hlo hf.1 hf.2 hdg ?_
  exact kk
def jimin (x y : Int32) : Int32 := if y < x then y else x
theorem ky_imin {index : Nat} (F : ky_F p s m meth c own cc nL ret9 args) (w : Cond.methodLink own index Lib.Math.min.name ∈ ky_B ∧ Cond.static Lib.Math.min.name ∈ ky_B ∧ Cond.initialized "java/lang/Math" ∈ ky_B ∧ Cond.code Lib.Math.min.name Lib.Math.min.code 2 (some .int) ∈ ky_B)
    (hl : ls.size = nL) (hfr : 1 ≤ R.frames) (hlo : (rest.map fun v => v.category).sum + 13 ≤ R.locals) (hf : cells ≤ R.cells ∧ slots ≤ R.slots) {x y : Int32} (hdg : decode cc pc = .ok (.invokestatic index, 3))
    (kk : W p l e R s m args below meth c H locs cells slots Q (F0 m (pc + 3) ls (.int (jimin x y) :: rest))) : W p l e R s m args below meth c H locs cells slots Q (F0 m pc ls (.int y :: .int x :: rest)) := by
  obtain ⟨hx, hb, hml, hown, -, -, hts⟩ := F
  refine va_mmin hx hb (hml.trans hl.symm) hown (hts _ w.1) (hts _ w.2.1) (hts _ w.2.2.1) (hts _ w.2.2.2) hfr hlo hf.1 hf.2 hdg ?_
  exact kk
def jlmax (x y : Int64) : Int64 := if y < x then x else y
theorem ky_lmax {index : Nat} (F : ky_F p s m meth c own cc nL ret9 args) (w : Cond.methodLink own index Lib.MathLoose.max_long.x ∈ ky_B ∧ Cond.static Lib.MathLoose.max_long.x ∈ ky_B ∧ Cond.initialized "java/lang/Math" ∈ ky_B ∧ Cond.code Lib.MathLoose.max_long.x Lib.MathLoose.max_long.code 4 (some .long) ∈ ky_B)
    (hl : ls.size = nL) (hfr : 1 ≤ R.frames) (hlo : (rest.map fun v => v.category).sum + 15 ≤ R.locals) (hf : cells ≤ R.cells ∧ slots ≤ R.slots) {x y : Int64} (hdg : decode cc pc = .ok (.invokestatic index, 3))
    (kk : W p l e R s m args below meth c H locs cells slots Q (F0 m (pc + 3) ls (.long (jlmax x y) :: rest))) : W p l e R s m args below meth c H locs cells slots Q (F0 m pc ls (.long y :: .long x :: rest)) := by
  obtain ⟨hx, hb, hml, hown, -, -, hts⟩ := F
  refine va_mmax_long hx hb (hml.trans hl.symm) hown (hts _ w.1) (hts _ w.2.1) (hts _ w.2.2.1) (hts _ w.2.2.2) hfr hlo hf.1 hf.2 hdg ?_
  exact kk
def jlmin (x y : Int64) : Int64 := if y < x then y else x
theorem ky_lmin {index : Nat} (F : ky_F p s m meth c own cc nL ret9 args) (w : Cond.methodLink own index Lib.MathLoose.min_long.x ∈ ky_B ∧ Cond.static Lib.MathLoose.min_long.x ∈ ky_B ∧ Cond.initialized "java/lang/Math" ∈ ky_B ∧ Cond.code Lib.MathLoose.min_long.x Lib.MathLoose.min_long.code 4 (some .long) ∈ ky_B)
    (hl : ls.size = nL) (hfr : 1 ≤ R.frames) (hlo : (rest.map fun v => v.category).sum + 15 ≤ R.locals) (hf : cells ≤ R.cells ∧ slots ≤ R.slots) {x y : Int64} (hdg : decode cc pc = .ok (.invokestatic index, 3))
    (kk : W p l e R s m args below meth c H locs cells slots Q (F0 m (pc + 3) ls (.long (jlmin x y) :: rest))) : W p l e R s m args below meth c H locs cells slots Q (F0 m pc ls (.long y :: .long x :: rest)) := by
  obtain ⟨hx, hb, hml, hown, -, -, hts⟩ := F
  refine va_mmin_long hx hb (hml.trans hl.symm) hown (hts _ w.1) (hts _ w.2.1) (hts _ w.2.2.1) (hts _ w.2.2.2) hfr hlo hf.1 hf.2 hdg ?_
  exact kk
def jlabs (x : Int64) : Int64 := if 0 < x then x else -x
theorem ky_labs {index : Nat} (F : ky_F p s m meth c own cc nL ret9 args) (w : Cond.methodLink own index Lib.MathLoose.abs_long.x ∈ ky_B ∧ Cond.static Lib.MathLoose.abs_long.x ∈ ky_B ∧ Cond.initialized "java/lang/Math" ∈ ky_B ∧ Cond.code Lib.MathLoose.abs_long.x Lib.MathLoose.abs_long.code 2 (some .long) ∈ ky_B)
    (hl : ls.size = nL) (hfr : 1 ≤ R.frames) (hlo : (rest.map fun v => v.category).sum + 13 ≤ R.locals) (hf : cells ≤ R.cells ∧ slots ≤ R.slots) {x : Int64} (hdg : decode cc pc = .ok (.invokestatic index, 3))
    (kk : W p l e R s m args below meth c H locs cells slots Q (F0 m (pc + 3) ls (.long (jlabs x) :: rest))) : W p l e R s m args below meth c H locs cells slots Q (F0 m pc ls (.long x :: rest)) := by
  obtain ⟨hx, hb, hml, hown, -, -, hts⟩ := F
  refine va_mabs_long hx hb (hml.trans hl.symm) hown (hts _ w.1) (hts _ w.2.1) (hts _ w.2.2.1) (hts _ w.2.2.2) hfr hlo hf.1 hf.2 hdg ?_
  exact kk
def jiabs (x : Int32) : Int32 := if 0 ≤ x then x else 0 - x
theorem ky_iabs {index : Nat} (F : ky_F p s m meth c own cc nL ret9 args) (w : Cond.methodLink own index Lib.Math.abs.name ∈ ky_B ∧ Cond.static Lib.Math.abs.name ∈ ky_B ∧ Cond.initialized "java/lang/Math" ∈ ky_B ∧ Cond.code Lib.Math.abs.name Lib.Math.abs.code 1 (some .int) ∈ ky_B)
    (hl : ls.size = nL) (hfr : 1 ≤ R.frames) (hlo : (rest.map fun v => v.category).sum + 13 ≤ R.locals) (hf : cells ≤ R.cells ∧ slots ≤ R.slots) {x : Int32} (hdg : decode cc pc = .ok (.invokestatic index, 3))
    (kk : W p l e R s m args below meth c H locs cells slots Q (F0 m (pc + 3) ls (.int (jiabs x) :: rest))) : W p l e R s m args below meth c H locs cells slots Q (F0 m pc ls (.int x :: rest)) := by
  obtain ⟨hx, hb, hml, hown, -, -, hts⟩ := F
  refine va_mabs hx hb (hml.trans hl.symm) hown (hts _ w.1) (hts _ w.2.1) (hts _ w.2.2.1) (hts _ w.2.2.2) hfr hlo hf.1 hf.2 hdg ?_
  exact kk
end KYM
