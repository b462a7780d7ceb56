/-! the proof's object and its eight rows -/
abbrev ky_WPf (G : ky_G) (pf tk : Nat) (r : Nat → Nat) (g : Nat → Nat → Int64) : va_W := [(pf, .inr (2, [.ref tk])), (tk, .inl (G.2.1 4, 8, .inr (.inr (.inr (.inr (fun j => if j < 8 then some (r j) else none)))))), ((r 0), .inl (G.2.1 2, 6, .inr (.inl (g 0)))), ((r 1), .inl (G.2.1 2, 6, .inr (.inl (g 1)))), ((r 2), .inl (G.2.1 2, 6, .inr (.inl (g 2)))), ((r 3), .inl (G.2.1 2, 6, .inr (.inl (g 3)))), ((r 4), .inl (G.2.1 2, 6, .inr (.inl (g 4)))), ((r 5), .inl (G.2.1 2, 6, .inr (.inl (g 5)))), ((r 6), .inl (G.2.1 2, 6, .inr (.inl (g 6)))), ((r 7), .inl (G.2.1 2, 6, .inr (.inl (g 7))))]
def ky_bool (v : Option Value) : Prop := ∃ z : Int32, v = some (.int z) ∧ (z = 0 ∨ z = 1)
section KYAA
variable {p : Program} {l : Launch} {e : Env} {R : Room} {s : State} {m : MethodId} {args : Array Value} {below : List Frame} {meth : Method} {c : Code} {H : Heap} {locs : List Loc} {cells slots : Nat} {Q : State → Prop}
variable {cc : ByteArray} {pc : Nat} {ls : Array Slot} {rest : List Value} {A : Nat → Prop} {G : ky_G} {ws : va_W}
/-- a row out of a row of rows of longs -/
theorem ky_aldA (hx : p.tables.exec = Jvm.exec) (hb : c.code = cc) (hK : va_K G.1 kcl (ky_tys G.2.1) s) (hP : va_P G.1 kcl ws H) (q0 : Nat) {a n : Nat} {f : Nat → Option Nat} (ha : ws[q0]? = some (a, .inl (G.2.1 4, n, .inr (.inr (.inr (.inr f)))))) {i : Int32} (hin : vp_in i n) (hdg : decode cc pc = .ok (.aaload, 1))
    (kk : W p l e R s m args below meth c H locs cells slots Q (F0 m (pc + 1) ls (va_rf (f i.toNatClampNeg) :: rest))) : W p l e R s m args below meth c H locs cells slots Q (F0 m pc ls (.int i :: .ref a :: rest)) := by
  have hlt : i.toNatClampNeg < n := Nat.not_le.mp fun q => hin (Or.inr q)
  refine W.aald (v := va_rf (f i.toNatClampNeg)) (ty := .array .long) hx hb (hP q0 _ ha) ((hK.2 4 _ rfl).1 n (fun j => va_rf (f j))) rfl (fun q => by cases q) ?_ ?_ rfl rfl hdg kk
  · show ¬ (i < 0 ∨ (arrV _ _ _).slots.size ≤ _)
    rw [arrV_size]
    exact hin
  · show (arrV _ _ _).slots[_]? = _
    rw [arrV_read _ _ hlt]
end KYAA
