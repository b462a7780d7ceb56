/-! THE CLAIM OUT OF ONE WALK OF THE LAW'S BODY. Your part is whole_start (and what it stands on); all else here is the same for every law, but numbers. -/
def R_law : String := "ExactdoublesLaw"
def lw_P (b : Addr) (xs : List Int32) (args : Array Value) (s : State) : Prop := args = #[.ref b] ∧ s.IntsAt b xs ∧ xs.length ≤ 2048 ∧ (Jvm.Cond.and given_1 narrow_1).before args s = true
def lw_Q (_ : Array Value) (s : State) (o : Outcome) (t : State) : Prop := o = .returned (some (.int 1)) ∧ Framed s o t [] 602769 7287796
def lw_Z (below : List Frame) (a : Array Value) (s : State) : State → Prop := fun t => ∃ o, t.status = .running ∧ Ended t below o ∧ lw_Q a s o t
/-- the law's own end, with 1 on the stack, nothing written that was there before, its room as the claim has it -/
theorem lw_ret {p : Program} {l : Launch} {e : Env} {s : State} {m : MethodId} {below : List Frame} {meth : Method} {c : Code} {b : Nat} (hx : p.tables.exec = Jvm.exec) (hb : c.code = code) (hr : meth.sig.returnType = ret) (hlocks : meth.locks = false) {pc : Nat} {H : Heap} {ls : Array Slot} (hdg : decode code pc = .ok (.ireturn, 1)) : W p l e room_1 s m #[Value.ref b] below meth c H [] 602769 7287796 (lw_Z below #[Value.ref b] s) (F0 m pc ls [.int 1]) := by
  intro T hT X
  obtain ⟨fs, hret, hrun, hended, hW, hframe⟩ := X.leave (v := some (.int 1)) (hlocks := hlocks) (fun h => by rw [hr] at h; cases h)
  have hmeth' : T.vm.method? m = some meth := X.method'
  refine ⟨T.setFrames fs, ?_, .returned (some (.int 1)), hrun, hended, rfl, ⟨_, rfl⟩, hW, hframe⟩
  jvm_step X.here [X.here.top, hx, hb, hdg, hmeth', hr, ret, narrow_b1]
  (try refine ⟨rfl, ?_⟩); (try refine ⟨rfl, ?_⟩)
  first | (intro acts; rw [hret _ acts rfl rfl rfl]) | rw [hret _ _ rfl rfl rfl]
  exact Steps.refl _
/-- what holds at the law's entry: the machine, the code, the tables' words (any of lw_tbl by 'hts w (by decide +kernel)'), the script of L ints xs at the cell b, what the Statement gives of the start (any of its parts by flat_of_before) -/
def lw_At (p : Program) (s : State) (m : MethodId) (meth : Method) (c : Code) (b L : Nat) (xs : Nat → Int32) : Prop :=
  p.tables.exec = Jvm.exec ∧ c.code = code ∧ meth.sig.returnType = ret ∧ c.maxLocals = 7 ∧ s.vm.findClass R_law = some m.cls ∧ (∀ w ∈ lw_tbl, w.before #[Value.ref b] s = true) ∧ va_X b L xs s s.heap ∧ b < s.heap.size ∧ meth.locks = false ∧ (Jvm.Cond.and given_1 narrow_1).before #[Value.ref b] s = true
-- ===== YOUR PART BEGINS =====
set_option linter.constructorNameAsVariable false in
set_option maxHeartbeats 4000000 in
set_option maxRecDepth 100000 in
/-- YOUR PART: from the entry, for every script of at most 2048 ints, the law comes to its end with true ('hflags': the launch's flags, for a law that throws: no stack traces) -/
theorem whole_start {p : Program} {e : Env} {s : State} {m : MethodId} {below : List Frame} {meth : Method} {c : Code} (l : Launch) (hflags : l.flags = flags0) {b L : Nat} {xs : Nat → Int32} (hL : L ≤ 2048) (C0 : lw_At p s m meth c b L xs) : W p l e room_1 s m #[Value.ref b] below meth c s.heap [] 0 0 (lw_Z below #[Value.ref b] s) (entryFrame m ([Value.ref b] : List Value).toArray 7) := by
  obtain ⟨hx, hb, hr, hml, hown, hts, hX, hbl, hlocks, hgv⟩ := C0
  obtain ⟨G, hG, hE⟩ := ky_G0 hts hgv
  have hown : s.vm.findClass "ExactdoublesLaw" = some m.cls := hown
  have hB : ∀ w ∈ ky_B, w.before #[Value.ref b] s = true := fun w hw => hts w (ky_sub w hw)
  have F : ky_F p s m meth c "ExactdoublesLaw" code 7 ret #[Value.ref b] := ⟨hx, hb, hml, hown, hr, hlocks, hB⟩
  have hl9 : l.stackTraces = false := by unfold Launch.stackTraces; rw [hflags]; decide +kernel
  obtain ⟨A, hAd⟩ : ∃ A : Nat → Prop, A = fun q => s.heap.size ≤ q := ⟨_, rfl⟩
  have hA : ∀ q, s.heap.size ≤ q → A q := fun q hq => by rw [hAd]; exact hq
  have hA9 : ∀ q, A q → s.heap.size ≤ q := fun q hq => by rw [hAd] at hq; exact hq
  have hfr : ∀ q, A q → ky_fr G q := fun q hq => by show G.2.2.heap.size ≤ q; rw [hG]; exact hA9 q hq
  have hbA : ¬ A b := fun z => absurd (hA9 b z) (Nat.not_le.mpr hbl)
  have hS : va_S A s.heap s.heap [] := va_S.rf
  have hP : va_P G.1 kcl [] s.heap := fun k q h => by cases h
  have hD : va_D A [] := ⟨fun i j p9 q9 h => (by cases h), fun k q h => (by cases h)⟩
  have hl : lv_has _ 7 [(0, .ref b)] := lv_entry [Value.ref b] (n := 7) (Nat.le_of_ble_eq_true rfl)
  rw [lg_entry_eq]
  refine va_new (ci := 0) (fs := [.null, .null, .null, .int 0, .int 0, .int 0]) (C := RX6) (T := TX6) (N := 6) hx hb hB ki_X6 tyX6 tyX6_ok hown (hB _ kw_1_30) (hB _ kw_1_31) (hB _ kw_1_1) hE.1 hP hD hS hA rfl (fun j hj => by rcases (show j = 0 ∨ j = 1 ∨ j = 2 ∨ j = 3 ∨ j = 4 ∨ j = 5 by omega) with rfl | rfl | rfl | rfl | rfl | rfl <;> rfl) (Nat.le_of_ble_eq_true rfl) (Nat.le_of_ble_eq_true rfl) dc_L_law_0 (fun x H hP hD hS => ?_)
  refine lv_dup hx hb dc_L_law_3 rfl ?_
  refine ky_cIh (As := []) (wr := []) F (hE.at hfr hS) hfr (mt_X6_init l G x H.size) kI_L_177 ⟨⟨rfl, rfl⟩, Nat.le_of_ble_eq_true rfl, Nat.le_of_ble_eq_true rfl⟩ rfl hl.1 rfl (Nat.le_of_ble_eq_true rfl) ⟨Nat.le_of_ble_eq_true rfl, Nat.le_of_ble_eq_true rfl⟩ trivial hP hD hS hA [0] [] rfl rfl (by decide) (by decide) (by decide) dc_L_law_4 ?_
  rintro v9 ⟨cs, sc, fg, bb, va, pf, tk, r⟩ H locs rfl hP hD hS - hz hk9
  have hP : va_P G.1 kcl (ky_WB G x cs sc pf (fun _ => 0, 0, 0, 0) ++ ky_WS G sc fg bb (va, 16, 0, fun _ => 0, 0, fun _ => 0) ++ ky_WPf G pf tk r (fun _ _ => 0)) H := hP
  have hD : va_D A (ky_WB G x cs sc pf (fun _ => 0, 0, 0, 0) ++ ky_WS G sc fg bb (va, 16, 0, fun _ => 0, 0, fun _ => 0) ++ ky_WPf G pf tk r (fun _ _ => 0)) := hD
  refine lv_astore_n (lv' := [(1, .ref x), (0, .ref b)]) hx hb dc_L_law_7 rfl hl (by decide) rfl (fun ls hl => ?_)
  refine va_new (ci := 5) (fs := [.int 0, .null, .int 0, .int 0, .int 0]) (C := RX9) (T := TX9) (N := 5) hx hb hB ki_X9 tyX9 tyX9_ok hown (hB _ kw_5_237) (hB _ kw_5_238) (hB _ kw_1_8) hE.1 hP hD hS hA rfl (fun j hj => by rcases (show j = 0 ∨ j = 1 ∨ j = 2 ∨ j = 3 ∨ j = 4 by omega) with rfl | rfl | rfl | rfl | rfl <;> rfl) (Nat.le_of_ble_eq_true rfl) (Nat.le_of_ble_eq_true rfl) dc_L_law_8 (fun mo H hP hD hS => ?_)
  refine lv_dup hx hb dc_L_law_11 rfl ?_
  refine ky_cIh (As := []) (wr := ky_WB G x cs sc pf (fun _ => 0, 0, 0, 0) ++ ky_WS G sc fg bb (va, 16, 0, fun _ => 0, 0, fun _ => 0) ++ ky_WPf G pf tk r (fun _ _ => 0)) F (hE.at hfr hS) hfr (mt_X9_initW l G mo H.size) kI_L_180 ⟨⟨rfl, rfl⟩, Nat.le_of_ble_eq_true rfl, Nat.le_of_ble_eq_true rfl⟩ rfl hl.1 rfl (Nat.le_of_ble_eq_true rfl) ⟨Nat.le_of_ble_eq_true rfl, Nat.le_of_ble_eq_true rfl⟩ trivial hP hD hS hA [16] [0, 1, 2, 3, 4, 5, 6, 7, 8, 9, 10, 11, 12, 13, 14, 15] rfl rfl (by decide) (by decide) (by decide) dc_L_law_12 ?_
  rintro v9 ⟨ms, q0, q1, q2, q3, q4, q5⟩ H locs rfl hP hD hS - hz hk9
  have hP : va_P G.1 kcl ((ky_WB G x cs sc pf (fun _ => 0, 0, 0, 0) ++ ky_WS G sc fg bb (va, 16, 0, fun _ => 0, 0, fun _ => 0) ++ ky_WPf G pf tk r (fun _ _ => 0)) ++ (ky_WM G mo ms (0, 0, 0, 0, fun _ => (0, 0)) (va_up (va_up (va_up (va_up (va_up (va_up (fun _ => none) 0 (some q0)) 1 (some q1)) 2 (some q2)) 3 (some q3)) 4 (some q4)) 5 (some q5)) ++ [(q0, .inr (4, [.int 0, .long 0])), (q1, .inr (4, [.int 0, .long 0])), (q2, .inr (4, [.int 0, .long 0])), (q3, .inr (4, [.int 0, .long 0])), (q4, .inr (4, [.int 0, .long 0])), (q5, .inr (4, [.int 0, .long 0]))])) H := hP
  have hD : va_D A ((ky_WB G x cs sc pf (fun _ => 0, 0, 0, 0) ++ ky_WS G sc fg bb (va, 16, 0, fun _ => 0, 0, fun _ => 0) ++ ky_WPf G pf tk r (fun _ _ => 0)) ++ (ky_WM G mo ms (0, 0, 0, 0, fun _ => (0, 0)) (va_up (va_up (va_up (va_up (va_up (va_up (fun _ => none) 0 (some q0)) 1 (some q1)) 2 (some q2)) 3 (some q3)) 4 (some q4)) 5 (some q5)) ++ [(q0, .inr (4, [.int 0, .long 0])), (q1, .inr (4, [.int 0, .long 0])), (q2, .inr (4, [.int 0, .long 0])), (q3, .inr (4, [.int 0, .long 0])), (q4, .inr (4, [.int 0, .long 0])), (q5, .inr (4, [.int 0, .long 0]))])) := hD
  refine lv_astore_n (lv' := [(2, .ref mo), (1, .ref x), (0, .ref b)]) hx hb dc_L_law_15 rfl hl (by decide) rfl (fun ls hl => ?_)
  refine va_new (ci := 3) (fs := [.long 0, .null]) (C := RX7) (T := TX7) (N := 2) hx hb hB ki_X7 tyX7 tyX7_ok hown (hB _ kw_4_66) (hB _ kw_4_67) (hB _ kw_1_10) hE.1 hP hD hS hA rfl (fun j hj => by rcases (show j = 0 ∨ j = 1 by omega) with rfl | rfl <;> rfl) (Nat.le_of_ble_eq_true rfl) (Nat.le_of_ble_eq_true rfl) dc_L_law_16 (fun o H hP hD hS => ?_)
  refine lv_dup hx hb dc_L_law_19 rfl ?_
  refine ky_cINh (As := []) (wr := (ky_WB G x cs sc pf (fun _ => 0, 0, 0, 0) ++ ky_WS G sc fg bb (va, 16, 0, fun _ => 0, 0, fun _ => 0) ++ ky_WPf G pf tk r (fun _ _ => 0)) ++ (ky_WM G mo ms (0, 0, 0, 0, fun _ => (0, 0)) (va_up (va_up (va_up (va_up (va_up (va_up (fun _ => none) 0 (some q0)) 1 (some q1)) 2 (some q2)) 3 (some q3)) 4 (some q4)) 5 (some q5)) ++ [(q0, .inr (4, [.int 0, .long 0])), (q1, .inr (4, [.int 0, .long 0])), (q2, .inr (4, [.int 0, .long 0])), (q3, .inr (4, [.int 0, .long 0])), (q4, .inr (4, [.int 0, .long 0])), (q5, .inr (4, [.int 0, .long 0]))])) (host := "ExactdoublesLaw") (n := 0) F hE (hE.at hfr hS) hfr (mt_X7_init l G o H.size) (kc_4 _ (List.mem_of_getElem? (i := 68) rfl)) kw_4_69 kw_1_10 kw_4_70 rfl ⟨by decide, by decide, by decide +kernel⟩ ⟨⟨rfl, rfl⟩, Nat.le_of_ble_eq_true rfl, Nat.le_of_ble_eq_true rfl⟩ rfl hl.1 rfl (Nat.le_of_ble_eq_true rfl) ⟨Nat.le_of_ble_eq_true rfl, Nat.le_of_ble_eq_true rfl⟩ trivial hP hD hS hA [24] [0, 1, 2, 3, 4, 5, 6, 7, 8, 9, 10, 11, 12, 13, 14, 15, 16, 17, 18, 19, 20, 21, 22, 23] rfl rfl (by decide) (by decide) (by decide) dc_L_law_20 ?_
  rintro v9 ⟨⟩ H locs rfl hP hD hS - hz2 hk2
  refine lv_astore_n (lv' := [(3, .ref o), (2, .ref mo), (1, .ref x), (0, .ref b)]) hx hb dc_L_law_23 rfl hl (by decide) rfl (fun ls hl => ?_)
  refine lv_iconst (v := 0) hx hb dc_L_law_24 (by decide) ?_
  refine lv_istore (lv' := [(4, .int ((0 : Int32))), (3, .ref o), (2, .ref mo), (1, .ref x), (0, .ref b)]) hx hb dc_L_law_25 hl (by decide) rfl (fun ls hl => ?_)
  have hP9 := hP.sub (ws' := ky_LW G x cs sc pf fg bb tk o mo ms r (fun _ => 0, 0, 0, 0) (va, 16, 0, fun _ => 0, 0, fun _ => 0) (fun _ _ => 0) 0 .null (0, 0, 0, 0, fun _ => (0, 0)) (va_up (va_up (va_up (va_up (va_up (va_up (fun _ => none) 0 (some q0)) 1 (some q1)) 2 (some q2)) 3 (some q3)) 4 (some q4)) 5 (some q5))) [0, 1, 2, 3, 4, 5, 6, 7, 8, 9, 10, 11, 12, 13, 14, 15, 24, 16, 17] rfl
  have hD9 := hD.sub (ws' := ky_LW G x cs sc pf fg bb tk o mo ms r (fun _ => 0, 0, 0, 0) (va, 16, 0, fun _ => 0, 0, fun _ => 0) (fun _ _ => 0) 0 .null (0, 0, 0, 0, fun _ => (0, 0)) (va_up (va_up (va_up (va_up (va_up (va_up (fun _ => none) 0 (some q0)) 1 (some q1)) 2 (some q2)) 3 (some q3)) 4 (some q4)) 5 (some q5))) [0, 1, 2, 3, 4, 5, 6, 7, 8, 9, 10, 11, 12, 13, 14, 15, 24, 16, 17] (by decide) rfl
  have hIT9 : ky_IT G mo ms (fun _ => False) (va_up (va_up (va_up (va_up (va_up (va_up (fun _ => none) 0 (some q0)) 1 (some q1)) 2 (some q2)) 3 (some q3)) 4 (some q4)) 5 (some q5)) (fun _ => (0, 0)) H := ⟨fun _ z => z.elim, fun j hj => match j, hj with | 0, _ => ⟨q0, rfl, hP.sub [18] rfl, fun z => absurd (hD.1 18 16 _ _ rfl rfl z) (by decide), fun z => absurd (hD.1 18 17 _ _ rfl rfl z) (by decide), fun z => z⟩ | 1, _ => ⟨q1, rfl, hP.sub [19] rfl, fun z => absurd (hD.1 19 16 _ _ rfl rfl z) (by decide), fun z => absurd (hD.1 19 17 _ _ rfl rfl z) (by decide), fun z => z⟩ | 2, _ => ⟨q2, rfl, hP.sub [20] rfl, fun z => absurd (hD.1 20 16 _ _ rfl rfl z) (by decide), fun z => absurd (hD.1 20 17 _ _ rfl rfl z) (by decide), fun z => z⟩ | 3, _ => ⟨q3, rfl, hP.sub [21] rfl, fun z => absurd (hD.1 21 16 _ _ rfl rfl z) (by decide), fun z => absurd (hD.1 21 17 _ _ rfl rfl z) (by decide), fun z => z⟩ | 4, _ => ⟨q4, rfl, hP.sub [22] rfl, fun z => absurd (hD.1 22 16 _ _ rfl rfl z) (by decide), fun z => absurd (hD.1 22 17 _ _ rfl rfl z) (by decide), fun z => z⟩ | 5, _ => ⟨q5, rfl, hP.sub [23] rfl, fun z => absurd (hD.1 23 16 _ _ rfl rfl z) (by decide), fun z => absurd (hD.1 23 17 _ _ rfl rfl z) (by decide), fun z => z⟩ | j + 6, h => absurd h (by omega)⟩
  refine W.widen (k := 25 + 544 * 0) (n := 135 + 12088 * 0) (by omega) (by omega) ?_
  refine law_loop hl9 F hE hfr hA hX hbl hbA hL (fun H locs ls hS => ?_) (L + 1) 0 (by omega) (by omega) _ _ _ _ _ _ _ H locs ls ⟨Or.inl rfl, Nat.zero_le _, ky_fit0, ky_chs0⟩ si_start (lv_sub hl [4, 3, 2, 1, 0] rfl) hP9 hD9 hS hIT9
  refine lv_iconst (v := 1) hx hb dc_L_law_2300 (by decide) ?_
  refine W.forget (locs := []) (L := locs) (fun q hq => hA9 _ (hS.2.2 q hq)) ?_
  exact lw_ret hx hb hr hlocks dc_L_law_2301
-- ===== YOUR PART ENDS =====
set_option maxHeartbeats 4000000 in
theorem lw_walk (l : Launch) (hflags : l.flags = flags0) (b : Addr) (xs : List Int32) : MetFree l x (headSpec (Jvm.Cond.code x code maxLocals ret :: tables_1) room_1) (lw_P b xs) (fun _ _ _ _ _ => True) lw_Q := by
  refine MetFree.of_bodyS (code := code) (maxLocals := maxLocals) (ret := ret) (by decide) ?_ ?_
  · intro args s m h hn
    obtain ⟨meth, c, h1, h2, h3, h4, h5, h6, -, -⟩ := Cond.code_spec hn (atoms_spec (ws := Jvm.Cond.code x code maxLocals ret :: tables_1) h _ List.mem_cons_self)
    exact ⟨meth, c, h1, h2, h3, h4, h5, h6⟩
  · intro p e s m args below meth c s₁ B hml0 hP _
    obtain ⟨rfl, hx, hbd, hgv⟩ := hP
    obtain ⟨scr, harrAt, hlist, hof, hsmall⟩ := hx
    obtain ⟨hcb, hkn, -, -⟩ := State.arrayAt?_spec harrAt
    have hown : s.vm.findClass R_law = some m.cls := findClass_of_methodNamed B.named
    have hts0 : ∀ c ∈ (Jvm.Cond.code x code maxLocals ret :: tables_1), c.before #[Value.ref b] s = true := atoms_spec (ws := Jvm.Cond.code x code maxLocals ret :: tables_1) B.pre
    have hts : ∀ w ∈ lw_tbl, w.before #[Value.ref b] s = true := k2_hts_sels lw_privs (fun w hw => hts0 w (List.mem_cons_of_mem _ hw)) lw_privs_ok
    have hml : c.maxLocals = 7 := B.maxLocals_eq (hts0 _ List.mem_cons_self)
    have X₀ : Stand p l e room_1 s m #[Value.ref b] below meth c s₁ [] 0 0 := Stand.of_body B
    have hh0 : s₁.heap = s.heap := by rw [B.state]; rfl
    have hsz : scr.slots.size = xs.length := by rw [← Array.length_toList, hlist, List.length_map]
    have hval : ∀ j : Nat, j < xs.length → scr.slots[j]? = some (.int (xs.getD j 0)) := fun j hj => by
      rw [← Array.getElem?_toList, hlist]
      simp [hj]
    have hbl : b < s.heap.size := (Array.getElem?_eq_some_iff.mp hcb).1
    have hX : va_X b xs.length (fun j => xs.getD j 0) s s.heap := ⟨scr, hcb, hof, hkn, hsz, hval⟩
    have K : W p l e room_1 s m #[Value.ref b] below meth c s₁.heap [] 0 0 (lw_Z below #[Value.ref b] s) (entryFrame m ([Value.ref b] : List Value).toArray 7) := by
      rw [hh0]
      exact whole_start l hflags hbd ⟨B.exec, B.bytes, B.returns, hml, hown, hts, hX, hbl, B.notSynchronized, hgv⟩
    obtain ⟨t, a1, o, b1, b2, b3⟩ := K s₁ rfl X₀
    exact ⟨t, o, a1, b1, b2, b3⟩
theorem lw_pre_spec {args : Array Value} {s : State} (h : (Jvm.Cond.and given_1 narrow_1).before args s = true) (hr : rest_1_c.before args s = true) : ∃ (b : Addr) (xs : List Int32), lw_P b xs args s := by
  have hs := flat_of_before _ h
  have hq := flat_of_before _ hr
  have hc : (Cond.count 1).before args s = true := hs _ (by decide +kernel)
  have harr : (Cond.arrayOf (.arg 0) .int).before args s = true := hs _ (by decide +kernel)
  have hle : (Cond.le (.length (.arg 0)) (.int 2048)).before args s = true := hs _ (by decide +kernel)
  have hlen : (Cond.isInt (.length (.arg 0))).before args s = true := hq _ (by decide +kernel)
  have hall : (Cond.all (.arg 0) (.isInt (.elem (.arg 0) (.index 0)))).before args s = true := hq _ (by decide +kernel)
  obtain ⟨b, xs, hb, hx⟩ := State.ints_of_pre rfl harr hlen hall
  have hsm : xs.length < 2 ^ 31 := hx.choose_spec.2.2.2
  have hev : (Term.length (.arg 0)).eval args s none [] s = some (.int xs.length.toInt32) := hx.length_eval hb
  have hv := Cond.le_ints hev (show (Term.int 2048).eval args s none [] s = some (.int 2048) from rfl)
  have hd : xs.length.toInt32 ≤ 2048 := by
    simpa [Cond.before, Cond.holds, hv] using hle
  have hN : xs.length ≤ 2048 := (Int32.ofNat_le_ofNat hsm (by decide)).mp (show Int32.ofNat xs.length ≤ Int32.ofNat 2048 from hd)
  exact ⟨b, xs, Cond.one_arg hc (show args[0]? = some (.ref b) from hb), hx, hN, h⟩
theorem lw_comes (l : Launch) (hflags : l.flags = flags0) : Comes l x (Jvm.Cond.code x code maxLocals ret :: tables_1) room_1 (fun tb e args s => Calls_1 tb e args s ∧ rest_1 tb e args s ∧ Pre_1 tb e args s)
    (fun _ _ args s o t => lw_Q args s o t) := by
  intro p e ha hc hk s m args below hf hfit hheap happ hpre
  obtain ⟨b, xs, hP⟩ := lw_pre_spec hpre.2.2 hpre.2.1
  obtain ⟨k, o, h1, h2, h3, hQ⟩ := lw_walk l hflags b xs p e ha hc hk s m args below hf ((Spec.applies_iff_loose hf).mp happ).1 hP trivial
  exact ⟨k, o, h1, h2, h3, hQ⟩
theorem lw_frame {s t : State} {o : Outcome} {args : Array Value} (h : Framed s o t [] 602769 7287796) :
    Framed s o t (fieldLocs frame_1_writes args s ++ arrayLocs frame_1_arrays args s ++ staticLocs frame_1_statics s) 602769 7287796 := h
theorem lw_limb (L : Cond) (hL : ∀ (args : Array Value) (s t : State), L.after args s (.returned (some (.int 1))) t = true) :
    ArmFor flags0 classFile x code maxLocals ret World_1 tables_1 room_1 Calls_1 rest_1 Pre_1
      (fun tb e a s o t => postC L tb e a s o t ∧ Framed s o t (fieldLocs frame_1_writes a s ++ arrayLocs frame_1_arrays a s ++ staticLocs frame_1_statics s) 602769 7287796) := by
  intro l hflags _ _ p e ha hc hk s m args below hf hfit hheap happ hpre
  obtain ⟨k, o, h1, h2, h3, rfl, hF⟩ := lw_comes l hflags p e ha hc hk s m args below hf hfit hheap happ hpre
  exact ⟨k, _, h1, h2, h3, hL args s _, lw_frame hF⟩
theorem i_vc : Claimed_1_1 ∧ Claimed_1_2 := ⟨lw_limb limb_1_1 (fun args s t => by simp [limb_1_1, Cond.after, Cond.holds, Cond.value]), lw_limb limb_1_2 (fun args s t => Cond.after_iff.mpr (by
  first | (rw [show limb_1_2 = Cond.eq .result (.int 1) from rfl, Cond.eq_ints (x := 1) (y := 1) rfl rfl]; simp; done) | (simp [limb_1_2, Cond.value, Term.eval]; done)))⟩
