/-! the model's world: the object, the row of references; the numbers' objects behind it, which never change -/
abbrev ky_MV : Type := Int32 × Int32 × Int32 × Int32 × (Nat → Int32 × Int64)
abbrev ky_WM (G : ky_G) (m cs : Nat) (w : ky_MV) (f : Nat → Option Nat) : va_W := [(m, .inr (5, [.int w.1, .ref cs, .int w.2.1, .int w.2.2.1, .int w.2.2.2.1])), (cs, .inl (G.2.1 3, 6, .inr (.inr (.inr (.inr f)))))]
def ky_ok (m cs : Nat) (N : Nat → Prop) (q : Nat) : Prop := q ≠ m ∧ q ≠ cs ∧ ¬ N q
def ky_IT (G : ky_G) (m cs : Nat) (N : Nat → Prop) (f : Nat → Option Nat) (vs : Nat → Int32 × Int64) (H : Heap) : Prop := (∀ q, N q → q < H.size) ∧ ∀ j, j < 6 → ∃ a, f j = some a ∧ ky_It G a (vs j) H ∧ ky_ok m cs N a
theorem ky_IT.keep {G : ky_G} {m cs : Nat} {N : Nat → Prop} {f : Nat → Option Nat} {vs : Nat → Int32 × Int64} {H H1 : Heap} (h : ky_IT G m cs N f vs H) (hz : H.size ≤ H1.size) (hk : ∀ q : Nat, ky_ok m cs N q → q < H.size → H1[q]? = H[q]?) : ky_IT G m cs N f vs H1 :=
  ⟨fun q hq => Nat.lt_of_lt_of_le (h.1 q hq) hz, fun j hj => by
    obtain ⟨a, h1, h2, h3⟩ := h.2 j hj
    exact ⟨a, h1, h2.keep (hk a h3 h2.low), h3⟩⟩
theorem ky_nwc {G : ky_G} {m cs : Nat} {N : Nat → Prop} {w : ky_MV} {f : Nat → Option Nat} {n q : Nat} (h : ky_ok m cs N q) (hl : q < n) : ¬ va_A (ky_WM G m cs w f) n q := by
  rintro (⟨k, e, z⟩ | z)
  · match k, z with
    | 0, z => simp [ky_WM] at z; exact h.1 z.1.symm
    | 1, z => simp [ky_WM] at z; exact h.2.1 z.1.symm
    | k + 2, z => simp [ky_WM] at z
  · omega
theorem ky_nemp {n q : Nat} (hl : q < n) : ¬ va_A [] n q := ky_nfresh hl
theorem ky_ok.new {m cs : Nat} {N : Nat → Prop} {q n : Nat} (hm : m < n) (hc : cs < n) (hN : ∀ q, N q → q < n) (h : n ≤ q) : ky_ok m cs N q := ⟨by omega, by omega, fun z => absurd (hN q z) (Nat.not_lt.mpr h)⟩
theorem ky_ok.or {m cs : Nat} {N : Nat → Prop} {q r n : Nat} (hr : ky_ok m cs N r) (hm : m < n) (hc : cs < n) (hN : ∀ q, N q → q < n) (h : q = r ∨ n ≤ q) : ky_ok m cs N q := by
  rcases h with rfl | h
  · exact hr
  · exact ky_ok.new hm hc hN h
theorem ky_i6 {i : Int32} (h : vp_in i 6) : i.toNatClampNeg < 6 := Nat.not_le.mp fun q => h (Or.inr q)
def ky_vu (vs : Nat → Int32 × Int64) (i : Nat) (v : Int32 × Int64) : Nat → Int32 × Int64 := fun j => if j = i then v else vs j
theorem ky_IT.put {G : ky_G} {m cs : Nat} {N : Nat → Prop} {f : Nat → Option Nat} {vs : Nat → Int32 × Int64} {H : Heap} (h : ky_IT G m cs N f vs H) {q i : Nat} {v : Int32 × Int64} (hq : ky_It G q v H) (ho : ky_ok m cs N q) : ky_IT G m cs N (va_up f i (some q)) (ky_vu vs i v) H :=
  ⟨h.1, fun j hj => by
    by_cases e : j = i
    · exact ⟨q, by simp [va_up, e], by simpa [ky_vu, e] using hq, ho⟩
    · obtain ⟨a, h1, h2, h3⟩ := h.2 j hj
      exact ⟨a, by simp [va_up, e, h1], by simpa [ky_vu, e] using h2, h3⟩⟩
theorem ky_IT.ro {G : ky_G} {m cs : Nat} {N : Nat → Prop} {w0 : ky_MV} {f0 f : Nat → Option Nat} {vs : Nat → Int32 × Int64} {s : State} {A : Nat → Prop} {H : Heap} {locs : List Loc} (h : ky_IT G m cs N f vs s.heap) (hA : A = va_A (ky_WM G m cs w0 f0) s.heap.size) (hS : va_S A s.heap H locs) : ky_IT G m cs N f vs H :=
  h.keep hS.1 (fun q ho hl => hS.2.1 q hl (by rw [hA]; exact ky_nwc ho hl))
theorem ky_ro2 {G : ky_G} {m cs : Nat} {N : Nat → Prop} {w0 : ky_MV} {f0 : Nat → Option Nat} {a : Nat} {v : Int32 × Int64} {s : State} {A : Nat → Prop} {H : Heap} {locs : List Loc} (h : ky_It G a v s.heap) (ho : ky_ok m cs N a) (hA : A = va_A (ky_WM G m cs w0 f0) s.heap.size) (hS : va_S A s.heap H locs) : ky_It G a v H :=
  h.keep (hS.2.1 a h.low (by rw [hA]; exact ky_nwc ho h.low))
theorem ky_endM {G : ky_G} {A : Nat → Prop} {m cs : Nat} {N : Nat → Prop} {ρ : Type} {fn : ρ × ky_MV} {w' : ky_MV} {f' : Nat → Option Nat} {H : Heap} (mk : ρ → Option Value) (e : ρ) (hw : fn = (e, w')) (hP : va_P G.1 kcl (ky_WM G m cs w' f') H) (hD : va_D A (ky_WM G m cs w' f')) (hIT : ky_IT G m cs N f' w'.2.2.2.2 H) :
    ∃ (v : Option Value) (u : ky_MV × (Nat → Option Nat)), Outcome.returned (mk e) = .returned v ∧ (v = mk fn.1 ∧ u.1 = fn.2) ∧ va_P G.1 kcl (ky_WM G m cs u.1 u.2) H ∧ va_D A (ky_WM G m cs u.1 u.2) ∧ ky_IT G m cs N u.2 u.1.2.2.2.2 H :=
  ⟨_, (w', f'), rfl, ⟨by rw [hw], by rw [hw]⟩, hP, hD, hIT⟩
theorem ky_ok.own {G : ky_G} {m cs : Nat} {N : Nat → Prop} {w0 : ky_MV} {f0 : Nat → Option Nat} {A : Nat → Prop} {n : Nat} {ws : va_W} {em ec eq : va_E} {q : Nat} (hA : A = va_A (ky_WM G m cs w0 f0) n) (hN : ∀ q, N q → q < n) (hD : va_D A ws) (im ic iq : Nat) (hm : ws[im]? = some (m, em)) (hc : ws[ic]? = some (cs, ec)) (hq : ws[iq]? = some (q, eq)) (h1 : iq ≠ im) (h2 : iq ≠ ic) : ky_ok m cs N q := by
  have n1 : q ≠ m := fun z => h1 (hD.1 iq im _ _ hq hm z)
  have n2 : q ≠ cs := fun z => h2 (hD.1 iq ic _ _ hq hc z)
  have hz := hD.2 iq _ hq
  rw [hA] at hz
  rcases hz with ⟨k, e, z⟩ | z
  · match k, z with
    | 0, z => simp [ky_WM] at z; exact absurd z.1.symm n1
    | 1, z => simp [ky_WM] at z; exact absurd z.1.symm n2
    | k + 2, z => simp [ky_WM] at z
  · exact ⟨n1, n2, fun y => absurd (hN q y) (Nat.not_lt.mpr z)⟩
/-- the model's numbers, without its cells -/
abbrev ky_MQ : Type := Int32 × Int32 × Int32 × Int32
abbrev ky_WQ (G : ky_G) (m cs : Nat) (t : ky_MQ) (f : Nat → Option Nat) : va_W := [(m, .inr (5, [.int t.1, .ref cs, .int t.2.1, .int t.2.2.1, .int t.2.2.2])), (cs, .inl (G.2.1 3, 6, .inr (.inr (.inr (.inr f)))))]
