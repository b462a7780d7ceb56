/-! numbers' objects are none of the other things -/
def ky_okE (G : ky_G) (e : va_E) : Prop := match e with
  | .inl (c, _) => ∃ k, k < 6 ∧ c = G.2.1 k
  | .inr (ci, _) => ci ≠ 4 ∧ ci < 8
def ky_wok (G : ky_G) (W : va_W) : Prop := ∀ (k : Nat) (q : Nat × va_E), W[k]? = some q → ky_okE G q.2
theorem ky_wok.nil {G : ky_G} : ky_wok G [] := fun _ _ h => by cases h
theorem ky_wok.cons {G : ky_G} {q : Nat × va_E} {W : va_W} (h : ky_okE G q.2) (hW : ky_wok G W) : ky_wok G (q :: W) := fun k x hx => by
  cases k with
  | zero => cases hx; exact h
  | succ n => exact hW n x hx
theorem ky_wok.app {G : ky_G} {W V : va_W} (hW : ky_wok G W) (hV : ky_wok G V) : ky_wok G (W ++ V) := by
  induction W with
  | nil => exact hV
  | cons a W ih => exact ky_wok.cons (hW 0 a rfl) (ih (fun k q h => hW (k + 1) q h))
theorem ky_wokB (G : ky_G) (x cs sc pf : Nat) (u : ky_BS) : ky_wok G (ky_WB G x cs sc pf u) := .cons ⟨by decide, by decide⟩ (.cons ⟨2, by decide, rfl⟩ .nil)
theorem ky_wokS (G : ky_G) (sc fg b : Nat) (t : ky_SV) : ky_wok G (ky_WS G sc fg b t) := .cons ⟨by decide, by decide⟩ (.cons ⟨1, by decide, rfl⟩ (.cons ⟨by decide, by decide⟩ (.cons ⟨0, by decide, rfl⟩ .nil)))
theorem ky_wokO (G : ky_G) (o : Nat) (nn : Int64) (sv : Value) : ky_wok G (ky_WO o nn sv) := .cons ⟨by decide, by decide⟩ .nil
theorem ky_wokF (G : ky_G) (pf tk : Nat) (r : Nat → Nat) (g : Nat → Nat → Int64) : ky_wok G (ky_WPf G pf tk r g) := .cons ⟨by decide, by decide⟩ (.cons ⟨4, by decide, rfl⟩ (.cons ⟨2, by decide, rfl⟩ (.cons ⟨2, by decide, rfl⟩ (.cons ⟨2, by decide, rfl⟩ (.cons ⟨2, by decide, rfl⟩ (.cons ⟨2, by decide, rfl⟩ (.cons ⟨2, by decide, rfl⟩ (.cons ⟨2, by decide, rfl⟩ (.cons ⟨2, by decide, rfl⟩ .nil)))))))))
theorem ky_cellc (c : Nat) (a : vp_A) : (vp_cell c a).cls = c := by
  obtain ⟨n, a⟩ := a
  rcases a with a | a | a | a | a <;> rfl
theorem ky_names : ∀ ci, ci < 8 → ∀ q : vw_C, kcl[ci]? = some q → ci ≠ 4 → q.1 ≠ RX8 := by
  intro ci h q hq hn
  match ci, hq with
  | 0, hq => cases hq; decide
  | 1, hq => cases hq; decide
  | 2, hq => cases hq; decide
  | 3, hq => cases hq; decide
  | 4, hq => exact absurd rfl hn
  | 5, hq => cases hq; decide
  | 6, hq => cases hq; decide
  | 7, hq => cases hq; decide
  | n + 8, hq => cases hq
theorem ky_apt {G : ky_G} {s : State} {a : Nat} {v : Int32 × Int64} {q : Nat × va_E} {H : Heap} (hK : va_K G.1 kcl (ky_tys G.2.1) s) (hI : ky_It G a v H) (hq : va_at G.1 kcl q H) (ho : ky_okE G q.2) : a ≠ q.1 := by
  rintro rfl
  obtain ⟨r, hr, cell, g1, g2, -, -⟩ := hI 0 _ rfl
  have hr' : (RX8, TX8, 2) = r := Option.some.inj (show some (RX8, TX8, 2) = some r from hr)
  have hKn := (hK.1 4 _ (show kcl[4]? = some (RX8, TX8, 2) from rfl)).2
  obtain ⟨hf, kC, hkC, hkind⟩ := hKn
  obtain ⟨a, e⟩ := q
  cases e with
  | inl z =>
    obtain ⟨c, arr⟩ := z
    obtain ⟨k, hk, rfl⟩ := ho
    have h1 : H[a]? = some (vp_cell (G.2.1 k) arr) := hq
    have h2 : cell = vp_cell (G.2.1 k) arr := Option.some.inj (g1.symm.trans h1)
    have h3 : G.1.1 4 = G.2.1 k := by rw [← g2, h2, ky_cellc]
    have h4 : ∃ ty, (ky_tys G.2.1)[k]? = some (G.2.1 k, ty) := by
      match k, hk with
      | 0, _ => exact ⟨_, rfl⟩
      | 1, _ => exact ⟨_, rfl⟩
      | 2, _ => exact ⟨_, rfl⟩
      | 3, _ => exact ⟨_, rfl⟩
      | 4, _ => exact ⟨_, rfl⟩
      | 5, _ => exact ⟨_, rfl⟩
      | n + 6, h => exact absurd h (by omega)
    obtain ⟨ty, h5⟩ := h4
    obtain ⟨-, kA, h6, comp, h7⟩ := (hK.2 k _ h5).1 0 (fun _ => .null)
    have h8 : s.vm.classes[G.2.1 k]? = some kA := h6
    rw [← h3] at h8
    cases Option.some.inj (h8.symm.trans hkC)
    exact absurd (hkind.symm.trans h7) (fun h => by cases h)
  | inr z =>
    obtain ⟨ci, fs⟩ := z
    obtain ⟨hn, h8⟩ := ho
    obtain ⟨r9, hr9, cell9, j1, j2, -, -⟩ := hq
    have h2 : cell = cell9 := Option.some.inj (g1.symm.trans j1)
    have h3 : G.1.1 4 = G.1.1 ci := by rw [← g2, h2, j2]
    have hK9 := (hK.1 ci _ hr9).2
    have h4 := hK9.1
    rw [← h3] at h4
    obtain ⟨k1, k2, k3⟩ := Vm.findClass_spec h4
    obtain ⟨m1, m2, m3⟩ := Vm.findClass_spec hf
    have hh : k1 = m1 := Option.some.inj (k2.symm.trans m2)
    subst hh
    exact ky_names ci h8 _ hr9 hn (k3.symm.trans m3)
theorem ky_IT.kept2 {G : ky_G} {s : State} {mo ms : Nat} {N : Nat → Prop} {f : Nat → Option Nat} {vs : Nat → Int32 × Int64} {H H1 : Heap} {W : va_W} (h : ky_IT G mo ms N f vs H) (hK : va_K G.1 kcl (ky_tys G.2.1) s) (hP : va_P G.1 kcl W H) (hW : ky_wok G W) (hz : H.size ≤ H1.size) (hk : ∀ q : Nat, q < H.size → ¬ va_A W H.size q → H1[q]? = H[q]?) : ky_IT G mo ms N f vs H1 :=
  ⟨fun q hq => Nat.lt_of_lt_of_le (h.1 q hq) hz, fun j hj => by
    obtain ⟨a, h1, h2, h3⟩ := h.2 j hj
    refine ⟨a, h1, h2.keep (hk a h2.low ?_), h3⟩
    rintro (⟨k, e, z⟩ | z)
    · exact ky_apt hK h2 (hP k _ z) (hW k _ z) rfl
    · exact absurd h2.low (Nat.not_lt.mpr z)⟩
/-! the law's world -/
abbrev ky_LW (G : ky_G) (x cs sc pf fg bb tk o mo ms : Nat) (r : Nat → Nat) (u : ky_BS) (t : ky_SV) (g : Nat → Nat → Int64) (nn : Int64) (sv : Value) (w : ky_MV) (f : Nat → Option Nat) : va_W := ky_WB G x cs sc pf u ++ (ky_WS G sc fg bb t ++ (ky_WPf G pf tk r g ++ (ky_WO o nn sv ++ ky_WM G mo ms w f)))
section KYLL
variable {p : Program} {l : Launch} {e : Env} {R : Room} {s : State} {m : MethodId} {args : Array Value} {below : List Frame} {meth : Method} {c : Code} {H : Heap} {locs : List Loc} {cells slots : Nat} {Q : State → Prop}
variable {cc : ByteArray} {own : String} {nL : Nat} {ret9 : Option FieldType} {pc : Nat} {ls : Array Slot} {rest st : List Value} {mc mz : Nat} {A : Nat → Prop} {G : ky_G}
variable {y : MethodName} {bytes : ByteArray} {maxL n index : Nat} {ret : Option FieldType} {rm : Room} {As : List Value} {hh : List (Nat × Nat × Nat × Nat)}
variable {x cs sc pf fg bb tk o mo ms : Nat} {r : Nat → Nat} {u : ky_BS} {t : ky_SV} {g : Nat → Nat → Int64} {nn : Int64} {sv : Value} {w : ky_MV} {f : Nat → Option Nat}
theorem cl_num {post : Option Value → (ky_BS × Int64) → Prop} (F : ky_F p s m meth c own cc nL ret9 args) (hE : ky_E G s) (hfr : ∀ q, A q → ky_fr G q) (hA : ∀ q, s.heap.size ≤ q → A q)
    (hM : Met l y (.codeWith y bytes maxL ret hh :: ky_B) rm (ky_P G As (ky_WB G x cs sc pf u ++ ky_WO o nn sv) H.size (fun _ => True)) (ky_Q (S := ky_BS × Int64) G (va_A (ky_WB G x cs sc pf u ++ ky_WO o nn sv) H.size) post (fun z => ky_WB G x cs sc pf z.1 ++ ky_WO o z.2 sv) (fun _ _ => True)) mc mz (va_A (ky_WB G x cs sc pf u ++ ky_WO o nn sv) H.size)) (ww : ky_wH own index y bytes maxL ret hh n)
    (hR : (rm.cells = mc ∧ rm.slots = mz) ∧ rm.frames + 1 ≤ R.frames ∧ 8 + (maxL + 11) + rm.locals ≤ R.locals) (hn : As.length = n) (hl : ls.size = nL) (hst : st = As.reverse ++ rest) (hcat : (rest.map fun v => v.category).sum ≤ 8) (hf : cells + mc ≤ R.cells ∧ slots + mz ≤ R.slots)
    (hP : va_P G.1 kcl (ky_LW G x cs sc pf fg bb tk o mo ms r u t g nn sv w f) H) (hD : va_D A (ky_LW G x cs sc pf fg bb tk o mo ms r u t g nn sv w f)) (hS : va_S A s.heap H locs) (hIT : ky_IT G mo ms (fun _ => False) f w.2.2.2.2 H) (hdg : decode cc pc = .ok (.invokestatic index, 3))
    (kk : ∀ (v : Option Value) (z : ky_BS × Int64) (H1 : Heap) (locs1 : List Loc), post v z → va_P G.1 kcl (ky_LW G x cs sc pf fg bb tk o mo ms r z.1 t g z.2 sv w f) H1 → va_D A (ky_LW G x cs sc pf fg bb tk o mo ms r z.1 t g z.2 sv w f) → va_S A s.heap H1 locs1 → ky_IT G mo ms (fun _ => False) f w.2.2.2.2 H1 → W p l e R s m args below meth c H1 locs1 (cells + mc) (slots + mz) Q (F0 m (pc + 3) ls (v.toList ++ rest))) :
    W p l e R s m args below meth c H locs cells slots Q (F0 m pc ls st) := by
  refine ky_cSH (wr := ky_WS G sc fg bb t ++ (ky_WPf G pf tk r g ++ ky_WM G mo ms w f)) F (hE.at hfr hS) hfr hM ww hR hn hl hst hcat hf trivial hP hD hS hA [0, 1, 16] [2, 3, 4, 5, 6, 7, 8, 9, 10, 11, 12, 13, 14, 15, 17, 18] rfl rfl (by decide) (by decide) (by decide) hdg ?_
  rintro v z H1 locs1 hp hP1 hD1 hS1 - hz hk9
  exact kk v z H1 locs1 hp (hP1.sub [16, 17, 0, 1, 2, 3, 4, 5, 6, 7, 8, 9, 10, 11, 12, 13, 18, 14, 15] rfl) (hD1.sub [16, 17, 0, 1, 2, 3, 4, 5, 6, 7, 8, 9, 10, 11, 12, 13, 18, 14, 15] (by decide) rfl) hS1 (hIT.kept2 hE.1 (hP.sub (ws' := ky_WB G x cs sc pf u ++ ky_WO o nn sv) [0, 1, 16] rfl) ((ky_wokB _ _ _ _ _ _).app (ky_wokO _ _ _ _)) hz hk9)
theorem cl_txt {post : Option Value → (ky_SV × Value) → Prop} (F : ky_F p s m meth c own cc nL ret9 args) (hE : ky_E G s) (hfr : ∀ q, A q → ky_fr G q) (hA : ∀ q, s.heap.size ≤ q → A q)
    (hM : Met l y (.codeWith y bytes maxL ret hh :: ky_B) rm (ky_P G As ((ky_WB G x cs sc pf u ++ ky_WS G sc fg bb t) ++ ky_WO o nn sv) H.size (fun _ => True)) (ky_Q (S := ky_SV × Value) G (va_A ((ky_WB G x cs sc pf u ++ ky_WS G sc fg bb t) ++ ky_WO o nn sv) H.size) post (fun z => (ky_WB G x cs sc pf u ++ ky_WS G sc fg bb z.1) ++ ky_WO o nn z.2) (fun _ _ => True)) mc mz (va_A ((ky_WB G x cs sc pf u ++ ky_WS G sc fg bb t) ++ ky_WO o nn sv) H.size)) (ww : ky_wH own index y bytes maxL ret hh n)
    (hR : (rm.cells = mc ∧ rm.slots = mz) ∧ rm.frames + 1 ≤ R.frames ∧ 8 + (maxL + 11) + rm.locals ≤ R.locals) (hn : As.length = n) (hl : ls.size = nL) (hst : st = As.reverse ++ rest) (hcat : (rest.map fun v => v.category).sum ≤ 8) (hf : cells + mc ≤ R.cells ∧ slots + mz ≤ R.slots)
    (hP : va_P G.1 kcl (ky_LW G x cs sc pf fg bb tk o mo ms r u t g nn sv w f) H) (hD : va_D A (ky_LW G x cs sc pf fg bb tk o mo ms r u t g nn sv w f)) (hS : va_S A s.heap H locs) (hIT : ky_IT G mo ms (fun _ => False) f w.2.2.2.2 H) (hdg : decode cc pc = .ok (.invokestatic index, 3))
    (kk : ∀ (v : Option Value) (z : ky_SV × Value) (H1 : Heap) (locs1 : List Loc), post v z → va_P G.1 kcl (ky_LW G x cs sc pf fg bb tk o mo ms r u z.1 g nn z.2 w f) H1 → va_D A (ky_LW G x cs sc pf fg bb tk o mo ms r u z.1 g nn z.2 w f) → va_S A s.heap H1 locs1 → ky_IT G mo ms (fun _ => False) f w.2.2.2.2 H1 → W p l e R s m args below meth c H1 locs1 (cells + mc) (slots + mz) Q (F0 m (pc + 3) ls (v.toList ++ rest))) :
    W p l e R s m args below meth c H locs cells slots Q (F0 m pc ls st) := by
  refine ky_cSH (wr := ky_WPf G pf tk r g ++ ky_WM G mo ms w f) F (hE.at hfr hS) hfr hM ww hR hn hl hst hcat hf trivial hP hD hS hA [0, 1, 2, 3, 4, 5, 16] [6, 7, 8, 9, 10, 11, 12, 13, 14, 15, 17, 18] rfl rfl (by decide) (by decide) (by decide) hdg ?_
  rintro v z H1 locs1 hp hP1 hD1 hS1 - hz hk9
  exact kk v z H1 locs1 hp (hP1.sub [12, 13, 14, 15, 16, 17, 0, 1, 2, 3, 4, 5, 6, 7, 8, 9, 18, 10, 11] rfl) (hD1.sub [12, 13, 14, 15, 16, 17, 0, 1, 2, 3, 4, 5, 6, 7, 8, 9, 18, 10, 11] (by decide) rfl) hS1 (hIT.kept2 hE.1 (hP.sub (ws' := (ky_WB G x cs sc pf u ++ ky_WS G sc fg bb t) ++ ky_WO o nn sv) [0, 1, 2, 3, 4, 5, 16] rfl) (((ky_wokB _ _ _ _ _ _).app (ky_wokS _ _ _ _ _)).app (ky_wokO _ _ _ _)) hz hk9)
theorem cl_gl {post : Option Value → (ky_SV) → Prop} (F : ky_F p s m meth c own cc nL ret9 args) (hE : ky_E G s) (hfr : ∀ q, A q → ky_fr G q) (hA : ∀ q, s.heap.size ≤ q → A q)
    (hM : Met l y (.code y bytes maxL ret :: ky_B) rm (ky_P G (.ref x :: As) (ky_WB G x cs sc pf u ++ ky_WS G sc fg bb t) H.size (fun _ => True)) (ky_Q (S := ky_SV) G (va_A (ky_WB G x cs sc pf u ++ ky_WS G sc fg bb t) H.size) post (fun z => ky_WB G x cs sc pf u ++ ky_WS G sc fg bb z) (fun _ _ => True)) mc mz (va_A (ky_WB G x cs sc pf u ++ ky_WS G sc fg bb t) H.size)) (ww : ky_wV own index y bytes maxL ret n)
    (hR : (rm.cells = mc ∧ rm.slots = mz) ∧ rm.frames + 1 ≤ R.frames ∧ 8 + (maxL + 11) + rm.locals ≤ R.locals) (hn : As.length = n) (hl : ls.size = nL) (hst : st = As.reverse ++ .ref x :: rest) (hcat : (rest.map fun v => v.category).sum ≤ 8) (hf : cells + mc ≤ R.cells ∧ slots + mz ≤ R.slots)
    (hP : va_P G.1 kcl (ky_LW G x cs sc pf fg bb tk o mo ms r u t g nn sv w f) H) (hD : va_D A (ky_LW G x cs sc pf fg bb tk o mo ms r u t g nn sv w f)) (hS : va_S A s.heap H locs) (hIT : ky_IT G mo ms (fun _ => False) f w.2.2.2.2 H) {T9 : u_T} {N9 : Nat} (hcls : kcl[0]? = some (y.cls, T9, N9)) (hdg : decode cc pc = .ok (.invokevirtual index, 3))
    (kk : ∀ (v : Option Value) (z : ky_SV) (H1 : Heap) (locs1 : List Loc), post v z → va_P G.1 kcl (ky_LW G x cs sc pf fg bb tk o mo ms r u z g nn sv w f) H1 → va_D A (ky_LW G x cs sc pf fg bb tk o mo ms r u z g nn sv w f) → va_S A s.heap H1 locs1 → ky_IT G mo ms (fun _ => False) f w.2.2.2.2 H1 → W p l e R s m args below meth c H1 locs1 (cells + mc) (slots + mz) Q (F0 m (pc + 3) ls (v.toList ++ rest))) :
    W p l e R s m args below meth c H locs cells slots Q (F0 m pc ls st) := by
  refine ky_cVh (wr := ky_WPf G pf tk r g ++ (ky_WO o nn sv ++ ky_WM G mo ms w f)) F (hE.at hfr hS) hfr hM ww hR hn hl hst hcat hf (va_recv hE.1 hP (ci := 0) (q0 := 0) hcls rfl) trivial hP hD hS hA [0, 1, 2, 3, 4, 5] [6, 7, 8, 9, 10, 11, 12, 13, 14, 15, 16, 17, 18] rfl rfl (by decide) (by decide) (by decide) hdg ?_
  rintro v z H1 locs1 hp hP1 hD1 hS1 - hz hk9
  exact kk v z H1 locs1 hp (hP1.sub [13, 14, 15, 16, 17, 18, 0, 1, 2, 3, 4, 5, 6, 7, 8, 9, 10, 11, 12] rfl) (hD1.sub [13, 14, 15, 16, 17, 18, 0, 1, 2, 3, 4, 5, 6, 7, 8, 9, 10, 11, 12] (by decide) rfl) hS1 (hIT.kept2 hE.1 (hP.sub (ws' := ky_WB G x cs sc pf u ++ ky_WS G sc fg bb t) [0, 1, 2, 3, 4, 5] rfl) ((ky_wokB _ _ _ _ _ _).app (ky_wokS _ _ _ _ _)) hz hk9)
theorem cl_kn {post : Option Value → (ky_BS) → Prop} (F : ky_F p s m meth c own cc nL ret9 args) (hE : ky_E G s) (hfr : ∀ q, A q → ky_fr G q) (hA : ∀ q, s.heap.size ≤ q → A q)
    (hM : Met l y (.code y bytes maxL ret :: ky_B) rm (ky_P G (.ref x :: As) (ky_WB G x cs sc pf u) H.size (fun _ => True)) (ky_Q (S := ky_BS) G (va_A (ky_WB G x cs sc pf u) H.size) post (fun z => ky_WB G x cs sc pf z) (fun _ _ => True)) mc mz (va_A (ky_WB G x cs sc pf u) H.size)) (ww : ky_wV own index y bytes maxL ret n)
    (hR : (rm.cells = mc ∧ rm.slots = mz) ∧ rm.frames + 1 ≤ R.frames ∧ 8 + (maxL + 11) + rm.locals ≤ R.locals) (hn : As.length = n) (hl : ls.size = nL) (hst : st = As.reverse ++ .ref x :: rest) (hcat : (rest.map fun v => v.category).sum ≤ 8) (hf : cells + mc ≤ R.cells ∧ slots + mz ≤ R.slots)
    (hP : va_P G.1 kcl (ky_LW G x cs sc pf fg bb tk o mo ms r u t g nn sv w f) H) (hD : va_D A (ky_LW G x cs sc pf fg bb tk o mo ms r u t g nn sv w f)) (hS : va_S A s.heap H locs) (hIT : ky_IT G mo ms (fun _ => False) f w.2.2.2.2 H) {T9 : u_T} {N9 : Nat} (hcls : kcl[0]? = some (y.cls, T9, N9)) (hdg : decode cc pc = .ok (.invokevirtual index, 3))
    (kk : ∀ (v : Option Value) (z : ky_BS) (H1 : Heap) (locs1 : List Loc), post v z → va_P G.1 kcl (ky_LW G x cs sc pf fg bb tk o mo ms r z t g nn sv w f) H1 → va_D A (ky_LW G x cs sc pf fg bb tk o mo ms r z t g nn sv w f) → va_S A s.heap H1 locs1 → ky_IT G mo ms (fun _ => False) f w.2.2.2.2 H1 → W p l e R s m args below meth c H1 locs1 (cells + mc) (slots + mz) Q (F0 m (pc + 3) ls (v.toList ++ rest))) :
    W p l e R s m args below meth c H locs cells slots Q (F0 m pc ls st) := by
  refine ky_cVh (wr := ky_WS G sc fg bb t ++ (ky_WPf G pf tk r g ++ (ky_WO o nn sv ++ ky_WM G mo ms w f))) F (hE.at hfr hS) hfr hM ww hR hn hl hst hcat hf (va_recv hE.1 hP (ci := 0) (q0 := 0) hcls rfl) trivial hP hD hS hA [0, 1] [2, 3, 4, 5, 6, 7, 8, 9, 10, 11, 12, 13, 14, 15, 16, 17, 18] rfl rfl (by decide) (by decide) (by decide) hdg ?_
  rintro v z H1 locs1 hp hP1 hD1 hS1 - hz hk9
  exact kk v z H1 locs1 hp (hP1.sub [17, 18, 0, 1, 2, 3, 4, 5, 6, 7, 8, 9, 10, 11, 12, 13, 14, 15, 16] rfl) (hD1.sub [17, 18, 0, 1, 2, 3, 4, 5, 6, 7, 8, 9, 10, 11, 12, 13, 14, 15, 16] (by decide) rfl) hS1 (hIT.kept2 hE.1 (hP.sub (ws' := ky_WB G x cs sc pf u) [0, 1] rfl) (ky_wokB _ _ _ _ _ _) hz hk9)
theorem cl_so {post : Option Value → (Nat → Nat → Int64) → Prop} (F : ky_F p s m meth c own cc nL ret9 args) (hE : ky_E G s) (hfr : ∀ q, A q → ky_fr G q) (hA : ∀ q, s.heap.size ≤ q → A q)
    (hM : Met l y (.code y bytes maxL ret :: ky_B) rm (ky_P G (.ref x :: As) (ky_WB G x cs sc pf u ++ ky_WPf G pf tk r g) H.size (fun _ => True)) (ky_Q (S := Nat → Nat → Int64) G (va_A (ky_WB G x cs sc pf u ++ ky_WPf G pf tk r g) H.size) post (fun z => ky_WB G x cs sc pf u ++ ky_WPf G pf tk r z) (fun _ _ => True)) mc mz (va_A (ky_WB G x cs sc pf u ++ ky_WPf G pf tk r g) H.size)) (ww : ky_wV own index y bytes maxL ret n)
    (hR : (rm.cells = mc ∧ rm.slots = mz) ∧ rm.frames + 1 ≤ R.frames ∧ 8 + (maxL + 11) + rm.locals ≤ R.locals) (hn : As.length = n) (hl : ls.size = nL) (hst : st = As.reverse ++ .ref x :: rest) (hcat : (rest.map fun v => v.category).sum ≤ 8) (hf : cells + mc ≤ R.cells ∧ slots + mz ≤ R.slots)
    (hP : va_P G.1 kcl (ky_LW G x cs sc pf fg bb tk o mo ms r u t g nn sv w f) H) (hD : va_D A (ky_LW G x cs sc pf fg bb tk o mo ms r u t g nn sv w f)) (hS : va_S A s.heap H locs) (hIT : ky_IT G mo ms (fun _ => False) f w.2.2.2.2 H) {T9 : u_T} {N9 : Nat} (hcls : kcl[0]? = some (y.cls, T9, N9)) (hdg : decode cc pc = .ok (.invokevirtual index, 3))
    (kk : ∀ (v : Option Value) (z : Nat → Nat → Int64) (H1 : Heap) (locs1 : List Loc), post v z → va_P G.1 kcl (ky_LW G x cs sc pf fg bb tk o mo ms r u t z nn sv w f) H1 → va_D A (ky_LW G x cs sc pf fg bb tk o mo ms r u t z nn sv w f) → va_S A s.heap H1 locs1 → ky_IT G mo ms (fun _ => False) f w.2.2.2.2 H1 → W p l e R s m args below meth c H1 locs1 (cells + mc) (slots + mz) Q (F0 m (pc + 3) ls (v.toList ++ rest))) :
    W p l e R s m args below meth c H locs cells slots Q (F0 m pc ls st) := by
  refine ky_cVh (wr := ky_WS G sc fg bb t ++ (ky_WO o nn sv ++ ky_WM G mo ms w f)) F (hE.at hfr hS) hfr hM ww hR hn hl hst hcat hf (va_recv hE.1 hP (ci := 0) (q0 := 0) hcls rfl) trivial hP hD hS hA [0, 1, 6, 7, 8, 9, 10, 11, 12, 13, 14, 15] [2, 3, 4, 5, 16, 17, 18] rfl rfl (by decide) (by decide) (by decide) hdg ?_
  rintro v z H1 locs1 hp hP1 hD1 hS1 - hz hk9
  exact kk v z H1 locs1 hp (hP1.sub [7, 8, 0, 1, 2, 3, 9, 10, 11, 12, 13, 14, 15, 16, 17, 18, 4, 5, 6] rfl) (hD1.sub [7, 8, 0, 1, 2, 3, 9, 10, 11, 12, 13, 14, 15, 16, 17, 18, 4, 5, 6] (by decide) rfl) hS1 (hIT.kept2 hE.1 (hP.sub (ws' := ky_WB G x cs sc pf u ++ ky_WPf G pf tk r g) [0, 1, 6, 7, 8, 9, 10, 11, 12, 13, 14, 15] rfl) ((ky_wokB _ _ _ _ _ _).app (ky_wokF _ _ _ _ _)) hz hk9)
theorem cl_dg {post : Option Value → (ky_SV × (Nat → Nat → Int64)) → Prop} (F : ky_F p s m meth c own cc nL ret9 args) (hE : ky_E G s) (hfr : ∀ q, A q → ky_fr G q) (hA : ∀ q, s.heap.size ≤ q → A q)
    (hM : Met l y (.code y bytes maxL ret :: ky_B) rm (ky_P G (.ref x :: As) (ky_WB G x cs sc pf u ++ (ky_WS G sc fg bb t ++ ky_WPf G pf tk r g)) H.size (fun _ => True)) (ky_Q (S := ky_SV × (Nat → Nat → Int64)) G (va_A (ky_WB G x cs sc pf u ++ (ky_WS G sc fg bb t ++ ky_WPf G pf tk r g)) H.size) post (fun z => ky_WB G x cs sc pf u ++ (ky_WS G sc fg bb z.1 ++ ky_WPf G pf tk r z.2)) (fun _ _ => True)) mc mz (va_A (ky_WB G x cs sc pf u ++ (ky_WS G sc fg bb t ++ ky_WPf G pf tk r g)) H.size)) (ww : ky_wV own index y bytes maxL ret n)
    (hR : (rm.cells = mc ∧ rm.slots = mz) ∧ rm.frames + 1 ≤ R.frames ∧ 8 + (maxL + 11) + rm.locals ≤ R.locals) (hn : As.length = n) (hl : ls.size = nL) (hst : st = As.reverse ++ .ref x :: rest) (hcat : (rest.map fun v => v.category).sum ≤ 8) (hf : cells + mc ≤ R.cells ∧ slots + mz ≤ R.slots)
    (hP : va_P G.1 kcl (ky_LW G x cs sc pf fg bb tk o mo ms r u t g nn sv w f) H) (hD : va_D A (ky_LW G x cs sc pf fg bb tk o mo ms r u t g nn sv w f)) (hS : va_S A s.heap H locs) (hIT : ky_IT G mo ms (fun _ => False) f w.2.2.2.2 H) {T9 : u_T} {N9 : Nat} (hcls : kcl[0]? = some (y.cls, T9, N9)) (hdg : decode cc pc = .ok (.invokevirtual index, 3))
    (kk : ∀ (v : Option Value) (z : ky_SV × (Nat → Nat → Int64)) (H1 : Heap) (locs1 : List Loc), post v z → va_P G.1 kcl (ky_LW G x cs sc pf fg bb tk o mo ms r u z.1 z.2 nn sv w f) H1 → va_D A (ky_LW G x cs sc pf fg bb tk o mo ms r u z.1 z.2 nn sv w f) → va_S A s.heap H1 locs1 → ky_IT G mo ms (fun _ => False) f w.2.2.2.2 H1 → W p l e R s m args below meth c H1 locs1 (cells + mc) (slots + mz) Q (F0 m (pc + 3) ls (v.toList ++ rest))) :
    W p l e R s m args below meth c H locs cells slots Q (F0 m pc ls st) := by
  refine ky_cVh (wr := ky_WO o nn sv ++ ky_WM G mo ms w f) F (hE.at hfr hS) hfr hM ww hR hn hl hst hcat hf (va_recv hE.1 hP (ci := 0) (q0 := 0) hcls rfl) trivial hP hD hS hA [0, 1, 2, 3, 4, 5, 6, 7, 8, 9, 10, 11, 12, 13, 14, 15] [16, 17, 18] rfl rfl (by decide) (by decide) (by decide) hdg ?_
  rintro v z H1 locs1 hp hP1 hD1 hS1 - hz hk9
  exact kk v z H1 locs1 hp (hP1.sub [3, 4, 5, 6, 7, 8, 9, 10, 11, 12, 13, 14, 15, 16, 17, 18, 0, 1, 2] rfl) (hD1.sub [3, 4, 5, 6, 7, 8, 9, 10, 11, 12, 13, 14, 15, 16, 17, 18, 0, 1, 2] (by decide) rfl) hS1 (hIT.kept2 hE.1 (hP.sub (ws' := ky_WB G x cs sc pf u ++ (ky_WS G sc fg bb t ++ ky_WPf G pf tk r g)) [0, 1, 2, 3, 4, 5, 6, 7, 8, 9, 10, 11, 12, 13, 14, 15] rfl) ((ky_wokB _ _ _ _ _ _).app ((ky_wokS _ _ _ _ _).app (ky_wokF _ _ _ _ _))) hz hk9)
theorem cl_mm {post : Option Value → (ky_MV × (Nat → Option Nat)) → Prop} (F : ky_F p s m meth c own cc nL ret9 args) (hE : ky_E G s) (hfr : ∀ q, A q → ky_fr G q) (hA : ∀ q, s.heap.size ≤ q → A q)
    (hM : Met l y (.code y bytes maxL ret :: ky_B) rm (ky_P G (.ref mo :: As) (ky_WM G mo ms w f) H.size (fun H => ky_IT G mo ms (fun _ => False) f w.2.2.2.2 H)) (ky_Q (S := ky_MV × (Nat → Option Nat)) G (va_A (ky_WM G mo ms w f) H.size) post (fun z => ky_WM G mo ms z.1 z.2) (fun z H => ky_IT G mo ms (fun _ => False) z.2 z.1.2.2.2.2 H)) mc mz (va_A (ky_WM G mo ms w f) H.size)) (ww : ky_wV own index y bytes maxL ret n)
    (hR : (rm.cells = mc ∧ rm.slots = mz) ∧ rm.frames + 1 ≤ R.frames ∧ 8 + (maxL + 11) + rm.locals ≤ R.locals) (hn : As.length = n) (hl : ls.size = nL) (hst : st = As.reverse ++ .ref mo :: rest) (hcat : (rest.map fun v => v.category).sum ≤ 8) (hf : cells + mc ≤ R.cells ∧ slots + mz ≤ R.slots)
    (hP : va_P G.1 kcl (ky_LW G x cs sc pf fg bb tk o mo ms r u t g nn sv w f) H) (hD : va_D A (ky_LW G x cs sc pf fg bb tk o mo ms r u t g nn sv w f)) (hS : va_S A s.heap H locs) (hIT : ky_IT G mo ms (fun _ => False) f w.2.2.2.2 H) {T9 : u_T} {N9 : Nat} (hcls : kcl[5]? = some (y.cls, T9, N9)) (hdg : decode cc pc = .ok (.invokevirtual index, 3))
    (kk : ∀ (v : Option Value) (z : ky_MV × (Nat → Option Nat)) (H1 : Heap) (locs1 : List Loc), post v z → va_P G.1 kcl (ky_LW G x cs sc pf fg bb tk o mo ms r u t g nn sv z.1 z.2) H1 → va_D A (ky_LW G x cs sc pf fg bb tk o mo ms r u t g nn sv z.1 z.2) → va_S A s.heap H1 locs1 → ky_IT G mo ms (fun _ => False) z.2 z.1.2.2.2.2 H1 → W p l e R s m args below meth c H1 locs1 (cells + mc) (slots + mz) Q (F0 m (pc + 3) ls (v.toList ++ rest))) :
    W p l e R s m args below meth c H locs cells slots Q (F0 m pc ls st) := by
  refine ky_cVh (wr := ky_WB G x cs sc pf u ++ (ky_WS G sc fg bb t ++ (ky_WPf G pf tk r g ++ ky_WO o nn sv))) F (hE.at hfr hS) hfr hM ww hR hn hl hst hcat hf (va_recv hE.1 hP (ci := 5) (q0 := 17) hcls rfl) hIT hP hD hS hA [17, 18] [0, 1, 2, 3, 4, 5, 6, 7, 8, 9, 10, 11, 12, 13, 14, 15, 16] rfl rfl (by decide) (by decide) (by decide) hdg ?_
  rintro v z H1 locs1 hp hP1 hD1 hS1 hIT1 hz hk9
  exact kk v z H1 locs1 hp (hP1.sub [0, 1, 2, 3, 4, 5, 6, 7, 8, 9, 10, 11, 12, 13, 14, 15, 16, 17, 18] rfl) (hD1.sub [0, 1, 2, 3, 4, 5, 6, 7, 8, 9, 10, 11, 12, 13, 14, 15, 16, 17, 18] (by decide) rfl) hS1 hIT1
theorem cl_mr {post : Option Value → (Int32) → Prop} (F : ky_F p s m meth c own cc nL ret9 args) (hE : ky_E G s) (hfr : ∀ q, A q → ky_fr G q) (hA : ∀ q, s.heap.size ≤ q → A q)
    (hM : Met l y (.code y bytes maxL ret :: ky_B) rm (ky_P G (.ref mo :: As) (ky_WM G mo ms w f) H.size (fun H => ky_IT G mo ms (fun _ => False) f w.2.2.2.2 H)) (ky_Q (S := Int32) G (va_A (ky_WM G mo ms w f) H.size) post (fun z => ky_WM G mo ms (z, w.2) f) (fun _ H => ky_IT G mo ms (fun _ => False) f w.2.2.2.2 H)) mc mz (va_A (ky_WM G mo ms w f) H.size)) (ww : ky_wV own index y bytes maxL ret n)
    (hR : (rm.cells = mc ∧ rm.slots = mz) ∧ rm.frames + 1 ≤ R.frames ∧ 8 + (maxL + 11) + rm.locals ≤ R.locals) (hn : As.length = n) (hl : ls.size = nL) (hst : st = As.reverse ++ .ref mo :: rest) (hcat : (rest.map fun v => v.category).sum ≤ 8) (hf : cells + mc ≤ R.cells ∧ slots + mz ≤ R.slots)
    (hP : va_P G.1 kcl (ky_LW G x cs sc pf fg bb tk o mo ms r u t g nn sv w f) H) (hD : va_D A (ky_LW G x cs sc pf fg bb tk o mo ms r u t g nn sv w f)) (hS : va_S A s.heap H locs) (hIT : ky_IT G mo ms (fun _ => False) f w.2.2.2.2 H) {T9 : u_T} {N9 : Nat} (hcls : kcl[5]? = some (y.cls, T9, N9)) (hdg : decode cc pc = .ok (.invokevirtual index, 3))
    (kk : ∀ (v : Option Value) (z : Int32) (H1 : Heap) (locs1 : List Loc), post v z → va_P G.1 kcl (ky_LW G x cs sc pf fg bb tk o mo ms r u t g nn sv (z, w.2) f) H1 → va_D A (ky_LW G x cs sc pf fg bb tk o mo ms r u t g nn sv (z, w.2) f) → va_S A s.heap H1 locs1 → ky_IT G mo ms (fun _ => False) f w.2.2.2.2 H1 → W p l e R s m args below meth c H1 locs1 (cells + mc) (slots + mz) Q (F0 m (pc + 3) ls (v.toList ++ rest))) :
    W p l e R s m args below meth c H locs cells slots Q (F0 m pc ls st) := by
  refine ky_cVh (wr := ky_WB G x cs sc pf u ++ (ky_WS G sc fg bb t ++ (ky_WPf G pf tk r g ++ ky_WO o nn sv))) F (hE.at hfr hS) hfr hM ww hR hn hl hst hcat hf (va_recv hE.1 hP (ci := 5) (q0 := 17) hcls rfl) hIT hP hD hS hA [17, 18] [0, 1, 2, 3, 4, 5, 6, 7, 8, 9, 10, 11, 12, 13, 14, 15, 16] rfl rfl (by decide) (by decide) (by decide) hdg ?_
  rintro v z H1 locs1 hp hP1 hD1 hS1 hIT1 hz hk9
  exact kk v z H1 locs1 hp (hP1.sub [0, 1, 2, 3, 4, 5, 6, 7, 8, 9, 10, 11, 12, 13, 14, 15, 16, 17, 18] rfl) (hD1.sub [0, 1, 2, 3, 4, 5, 6, 7, 8, 9, 10, 11, 12, 13, 14, 15, 16, 17, 18] (by decide) rfl) hS1 hIT1
theorem cl_mq {post : Option Value → (ky_MQ) → Prop} (F : ky_F p s m meth c own cc nL ret9 args) (hE : ky_E G s) (hfr : ∀ q, A q → ky_fr G q) (hA : ∀ q, s.heap.size ≤ q → A q)
    (hM : Met l y (.code y bytes maxL ret :: ky_B) rm (ky_P G (.ref mo :: As) (ky_WQ G mo ms (w.1, w.2.1, w.2.2.1, w.2.2.2.1) f) H.size (fun _ => True)) (ky_Q (S := ky_MQ) G (va_A (ky_WQ G mo ms (w.1, w.2.1, w.2.2.1, w.2.2.2.1) f) H.size) post (fun z => ky_WQ G mo ms z f) (fun _ _ => True)) mc mz (va_A (ky_WQ G mo ms (w.1, w.2.1, w.2.2.1, w.2.2.2.1) f) H.size)) (ww : ky_wV own index y bytes maxL ret n)
    (hR : (rm.cells = mc ∧ rm.slots = mz) ∧ rm.frames + 1 ≤ R.frames ∧ 8 + (maxL + 11) + rm.locals ≤ R.locals) (hn : As.length = n) (hl : ls.size = nL) (hst : st = As.reverse ++ .ref mo :: rest) (hcat : (rest.map fun v => v.category).sum ≤ 8) (hf : cells + mc ≤ R.cells ∧ slots + mz ≤ R.slots)
    (hP : va_P G.1 kcl (ky_LW G x cs sc pf fg bb tk o mo ms r u t g nn sv w f) H) (hD : va_D A (ky_LW G x cs sc pf fg bb tk o mo ms r u t g nn sv w f)) (hS : va_S A s.heap H locs) (hIT : ky_IT G mo ms (fun _ => False) f w.2.2.2.2 H) {T9 : u_T} {N9 : Nat} (hcls : kcl[5]? = some (y.cls, T9, N9)) (hdg : decode cc pc = .ok (.invokevirtual index, 3))
    (kk : ∀ (v : Option Value) (z : ky_MQ) (H1 : Heap) (locs1 : List Loc), post v z → va_P G.1 kcl (ky_LW G x cs sc pf fg bb tk o mo ms r u t g nn sv (z.1, z.2.1, z.2.2.1, z.2.2.2, w.2.2.2.2) f) H1 → va_D A (ky_LW G x cs sc pf fg bb tk o mo ms r u t g nn sv (z.1, z.2.1, z.2.2.1, z.2.2.2, w.2.2.2.2) f) → va_S A s.heap H1 locs1 → ky_IT G mo ms (fun _ => False) f w.2.2.2.2 H1 → W p l e R s m args below meth c H1 locs1 (cells + mc) (slots + mz) Q (F0 m (pc + 3) ls (v.toList ++ rest))) :
    W p l e R s m args below meth c H locs cells slots Q (F0 m pc ls st) := by
  refine ky_cVh (wr := ky_WB G x cs sc pf u ++ (ky_WS G sc fg bb t ++ (ky_WPf G pf tk r g ++ ky_WO o nn sv))) F (hE.at hfr hS) hfr hM ww hR hn hl hst hcat hf (va_recv hE.1 hP (ci := 5) (q0 := 17) hcls rfl) trivial hP hD hS hA [17, 18] [0, 1, 2, 3, 4, 5, 6, 7, 8, 9, 10, 11, 12, 13, 14, 15, 16] rfl rfl (by decide) (by decide) (by decide) hdg ?_
  rintro v z H1 locs1 hp hP1 hD1 hS1 - hz hk9
  exact kk v z H1 locs1 hp (hP1.sub [0, 1, 2, 3, 4, 5, 6, 7, 8, 9, 10, 11, 12, 13, 14, 15, 16, 17, 18] rfl) (hD1.sub [0, 1, 2, 3, 4, 5, 6, 7, 8, 9, 10, 11, 12, 13, 14, 15, 16, 17, 18] (by decide) rfl) hS1 (hIT.keep hz (fun q ho hl9 => hk9 q hl9 (ky_nwc (w := w) (f := f) ho hl9)))
end KYLL
