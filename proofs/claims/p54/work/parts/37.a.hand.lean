/-! texts out of builders -/
theorem ky_E.castN {G : ky_G} {U : State} (hE : ky_E G U) {C T : String} (h : Cond.castable C T ∈ lw_tbl) : va_Nw (.castable C T) U := by
  obtain ⟨b, h1, -⟩ := hE.narrow
  exact va_Nw.warmC hE.2.2.2.1 (va_any (A' := #[]) rfl (h1 _ h))
theorem ky_fitA {cA : ClassId} {n : Nat} {f : Nat → Int32} (h : ky_fit f) : ∀ (i : Nat) (v : Value), (vp_cell cA (n, .inl f)).slots[i]? = some v → fits .byte v = true := by
  intro i v hv
  rw [vp_cell_i] at hv
  have hi : i < n := by
    have := (Array.getElem?_eq_some_iff.mp hv).1
    rwa [arrV_size] at this
  have e : v = .int (f i) := by
    have := hv
    simp [arrV, hi] at this
    exact this.symm
  rw [e]
  exact h i
theorem ky_nmB {G : ky_G} {U : State} (hE : ky_E G U) : U.vm.findClass "[B" = some (G.2.1 0) := (hE.1.2 0 _ rfl).2
theorem ky_mn {n m : Nat} (h : n ≤ m) (hm : m < 2 ^ 20) : jimin (nI m - 0) (nI n) = nI n := by
  have e : nI m - 0 = nI m := by simp
  rw [e]
  unfold jimin
  by_cases c : n < m
  · rw [if_pos (nI_lt c (by omega))]
  · rw [show n = m by omega, if_neg (nI_nlt (Nat.le_refl _) (by omega))]
