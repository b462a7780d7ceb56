section KYS
variable {p : Program} {l : Launch} {e : Env} {R : Room} {s : State} {m : MethodId} {args : Array Value} {below : List Frame} {meth : Method} {c : Code} {H : Heap} {locs : List Loc} {cells slots : Nat} {Q : State → Prop}
variable {cc : ByteArray} {pc : Nat} {ls : Array Slot} {rest : List Value} {A : Nat → Prop} {G : ky_G} {ws : va_W}
/-- a number's object goes into the row of references; the object itself needn't be the method's own -/
theorem ky_astI (hx : p.tables.exec = Jvm.exec) (hb : c.code = cc) (hE1 : va_K G.1 kcl (ky_tys G.2.1) s) (hP : va_P G.1 kcl ws H) (hD : va_D A ws) (hS : va_S A s.heap H locs) (q0 : Nat) {a v n : Nat} {f : Nat → Option Nat} {vv : Int32 × Int64} {i : Int32}
    (ha : ws[q0]? = some (a, .inl (G.2.1 3, n, .inr (.inr (.inr (.inr f)))))) (hv : ky_It G v vv H) (hin : vp_in i n) (hdg : decode cc pc = .ok (.aastore, 1))
    (kk : ∀ (H1 : Heap) (locs1 : List Loc), va_P G.1 kcl (ws.set q0 (a, .inl (G.2.1 3, n, .inr (.inr (.inr (.inr (va_up f i.toNatClampNeg (some v)))))))) H1 → va_D A (ws.set q0 (a, .inl (G.2.1 3, n, .inr (.inr (.inr (.inr (va_up f i.toNatClampNeg (some v)))))))) → va_S A s.heap H1 locs1 →
      W p l e R s m args below meth c H1 locs1 cells slots Q (F0 m (pc + 1) ls rest)) : W p l e R s m args below meth c H locs cells slots Q (F0 m pc ls (.ref v :: .int i :: .ref a :: rest)) := by
  obtain ⟨r, hr, cellV, g1, g2, g3, -⟩ := hv 0 _ rfl
  have hI : kcl[4]? = some (RX8, TX8, 2) := rfl
  have hr' : r = (RX8, TX8, 2) := Option.some.inj (hr.symm.trans hI)
  subst hr'
  have hKn := (hE1.1 4 _ hI).2
  obtain ⟨kA, comp, k1, k2, k3, -⟩ := (hE1.2 3 (G.2.1 3, .object "ExactdoublesModel$Its") rfl).2
  have hcomp : comp = G.1.1 4 := Option.some.inj (k3.symm.trans hKn.1)
  subst hcomp
  obtain ⟨kC, hkC, -⟩ := hKn.2
  have hle : i.toNatClampNeg < n := Nat.not_le.mp (fun z => hin (Or.inr z))
  have hz : (arrV (G.2.1 3) n (fun j => va_rf (f j))).slots.size = n := arrV_size _ _ _
  refine W.aast hx hb (cell := vp_cell (G.2.1 3) (n, .inr (.inr (.inr (.inr f))))) (hP q0 _ ha) (fun q h => by cases h) (fun h => by cases h) k1 k2 rfl hkC ⟨fun z => hin (Or.inl z), by show _ < (arrV (G.2.1 3) n (fun j => va_rf (f j))).slots.size; rw [hz]; exact hle⟩ g1 (fun q h => by rw [g3] at h; cases h) (by rw [g2]; exact hkC) (by rw [g2]; exact va_assign hKn) rfl rfl hdg (fun H1 e1 z1 oq => ?_)
  refine kk H1 _ (hP.set hD ha ?_ oq) (hD.set ha) (hS.put z1 oq (hD.2 q0 _ ha))
  have e2 : vp_cell (G.2.1 3) (n, .inr (.inr (.inr (.inr (va_up f i.toNatClampNeg (some v)))))) = (vp_cell (G.2.1 3) (n, .inr (.inr (.inr (.inr f))))).setSlot i.toNatClampNeg (.ref v) := by
    rw [vp_cell_q, vp_cell_q, arrV_store]
    refine congrArg (arrV (G.2.1 3) n) (funext fun j => ?_)
    by_cases hj : j = i.toNatClampNeg <;> simp [updV, va_up, va_rf, hj]
  show H1[a]? = some (vp_cell _ _)
  rw [e2]
  exact e1
end KYS
