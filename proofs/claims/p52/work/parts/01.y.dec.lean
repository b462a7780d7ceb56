/-! a long code's instructions, each by the few bytes that it reads -/
def dw_at (c w : ByteArray) (p : Nat) : Prop := ∀ (k : Nat) (b : UInt8), w.data.toList[k]? = some b → c.data.toList[p + k]? = some b
def dw_R {α : Type} (r : Jvm.ClassFile.Decoder α) : Prop := ∀ (c w : ByteArray) (p q : Nat) (a : α) (e : Nat), dw_at c w p → Jvm.ClassFile.Reader.runAt r w q = .ok (a, e) → Jvm.ClassFile.Reader.runAt r c (p + q) = .ok (a, p + e)
theorem dw_u1 {c : ByteArray} {p : Nat} {b : UInt8} (h : c.data.toList[p]? = some b) : Jvm.ClassFile.Reader.runAt (Jvm.ClassFile.Reader.u1 : Jvm.ClassFile.Decoder Nat) c p = .ok (b.toNat, p + 1) := by
  obtain ⟨d⟩ := c
  obtain ⟨h1, h2⟩ := List.getElem?_eq_some_iff.mp h
  have hp : p < (ByteArray.mk d).size := h1
  have hb : (ByteArray.mk d)[p] = b := h2
  show (dite (p < (ByteArray.mk d).size) (fun h => (do set (p + 1); pure ((ByteArray.mk d)[p]).toNat : Jvm.ClassFile.Decoder Nat)) (fun _ => throw (Jvm.ClassFile.HasTruncated.truncated p))) (ByteArray.mk d) p = _
  rw [dif_pos hp, hb]
  rfl
theorem dw_u1n {c : ByteArray} {p : Nat} (h : c.data.toList[p]? = none) : ∃ er, Jvm.ClassFile.Reader.runAt (Jvm.ClassFile.Reader.u1 : Jvm.ClassFile.Decoder Nat) c p = .error er := by
  obtain ⟨d⟩ := c
  have hp : ¬ p < (ByteArray.mk d).size := Nat.not_lt.mpr (List.getElem?_eq_none_iff.mp h)
  refine ⟨Jvm.ClassFile.HasTruncated.truncated p, ?_⟩
  show (dite (p < (ByteArray.mk d).size) (fun h => (do set (p + 1); pure ((ByteArray.mk d)[p]).toNat : Jvm.ClassFile.Decoder Nat)) (fun _ => throw (Jvm.ClassFile.HasTruncated.truncated p))) (ByteArray.mk d) p = _
  rw [dif_neg hp]
  rfl
theorem dw_br {α β : Type} {x : Jvm.ClassFile.Decoder α} {f : α → Jvm.ClassFile.Decoder β} {c : ByteArray} {p e : Nat} {a : α} (h : Jvm.ClassFile.Reader.runAt x c p = .ok (a, e)) : Jvm.ClassFile.Reader.runAt (x >>= f) c p = Jvm.ClassFile.Reader.runAt (f a) c e := by
  have h9 : x c p = .ok (a, e) := h
  show ((x c p) >>= fun r => f r.1 c r.2) = f a c e
  rw [h9]
  rfl
theorem dw_be {α β : Type} {x : Jvm.ClassFile.Decoder α} {f : α → Jvm.ClassFile.Decoder β} {c : ByteArray} {p : Nat} {er : Jvm.ClassFile.DecodeError} (h : Jvm.ClassFile.Reader.runAt x c p = .error er) : Jvm.ClassFile.Reader.runAt (x >>= f) c p = .error er := by
  have h9 : x c p = .error er := h
  show ((x c p) >>= fun r => f r.1 c r.2) = .error er
  rw [h9]
  rfl
theorem dw_pure {α : Type} (a : α) : dw_R (pure a : Jvm.ClassFile.Decoder α) := fun c w p q a9 e _ h => by
  have h : (Except.ok (a, q) : Except Jvm.ClassFile.DecodeError (α × Nat)) = .ok (a9, e) := h
  cases h
  rfl
theorem dw_bind {α β : Type} {x : Jvm.ClassFile.Decoder α} {f : α → Jvm.ClassFile.Decoder β} (hx : dw_R x) (hf : ∀ a, dw_R (f a)) : dw_R (x >>= f) := fun c w p q b e hw h => by
  cases hr : Jvm.ClassFile.Reader.runAt x w q with
  | error er =>
    rw [dw_be hr] at h
    cases h
  | ok r =>
    obtain ⟨a, t⟩ := r
    rw [dw_br hr] at h
    rw [dw_br (hx c w p q a t hw hr)]
    exact hf a c w p t b e hw h
theorem dw_u1R : dw_R (Jvm.ClassFile.Reader.u1 : Jvm.ClassFile.Decoder Nat) := fun c w p q a e hw h => by
  cases hb : w.data.toList[q]? with
  | none =>
    obtain ⟨er, he⟩ := dw_u1n hb
    rw [he] at h
    cases h
  | some b =>
    rw [dw_u1 hb] at h
    cases h
    exact dw_u1 (hw q b hb)
theorem dw_map {α β : Type} {x : Jvm.ClassFile.Decoder α} {g : α → β} (hx : dw_R x) : dw_R (g <$> x) := by
  rw [map_eq_pure_bind]
  exact dw_bind hx (fun a => dw_pure (g a))
theorem dw_u2R : dw_R (Jvm.ClassFile.Reader.u2 : Jvm.ClassFile.Decoder Nat) := dw_bind dw_u1R (fun _ => dw_bind dw_u1R (fun _ => dw_pure _))
theorem dw_s1R : dw_R (Jvm.ClassFile.Reader.s1 : Jvm.ClassFile.Decoder Int) := dw_map dw_u1R
theorem dw_s2R : dw_R (Jvm.ClassFile.Reader.s2 : Jvm.ClassFile.Decoder Int) := dw_map dw_u2R
def dw_ops : List Nat := [1, 2, 3, 4, 5, 6, 7, 8, 9, 10, 16, 17, 18, 20, 21, 22, 25, 26, 27, 28, 29, 30, 31, 32, 33, 42, 43, 44, 45, 46, 47, 50, 51, 52, 54, 55, 58, 59, 60, 61, 62, 63, 64, 65, 66, 76, 77, 78, 79, 80, 83, 84, 85, 87, 88, 89, 90, 96, 97, 100, 101, 104, 105, 108, 109, 113, 116, 117, 120, 121, 122, 123, 125, 126, 127, 128, 129, 131, 132, 133, 136, 145, 146, 148, 153, 154, 155, 156, 157, 158, 159, 160, 161, 162, 163, 164, 167, 172, 173, 176, 177, 178, 180, 181, 182, 183, 184, 187, 189, 190, 191, 192, 199]
set_option maxRecDepth 100000 in
theorem dw_ex (pc : Nat) : ∃ f : Nat → Jvm.ClassFile.Decoder Jvm.ClassFile.Instr, Jvm.ClassFile.Decoder.instr pc = (Jvm.ClassFile.Reader.u1 >>= f) ∧ ∀ o ∈ dw_ops, dw_R (f o) := by
  refine ⟨_, rfl, ?_⟩
  intro o ho
  simp only [dw_ops, List.mem_cons, List.not_mem_nil, or_false] at ho
  rcases ho with rfl | rfl | rfl | rfl | rfl | rfl | rfl | rfl | rfl | rfl | rfl | rfl | rfl | rfl | rfl | rfl | rfl | rfl | rfl | rfl | rfl | rfl | rfl | rfl | rfl | rfl | rfl | rfl | rfl | rfl | rfl | rfl | rfl | rfl | rfl | rfl | rfl | rfl | rfl | rfl | rfl | rfl | rfl | rfl | rfl | rfl | rfl | rfl | rfl | rfl | rfl | rfl | rfl | rfl | rfl | rfl | rfl | rfl | rfl | rfl | rfl | rfl | rfl | rfl | rfl | rfl | rfl | rfl | rfl | rfl | rfl | rfl | rfl | rfl | rfl | rfl | rfl | rfl | rfl | rfl | rfl | rfl | rfl | rfl | rfl | rfl | rfl | rfl | rfl | rfl | rfl | rfl | rfl | rfl | rfl | rfl | rfl | rfl | rfl | rfl | rfl | rfl | rfl | rfl | rfl | rfl | rfl | rfl | rfl | rfl | rfl | rfl | rfl
  · exact dw_pure _
  · exact dw_pure _
  · exact dw_pure _
  · exact dw_pure _
  · exact dw_pure _
  · exact dw_pure _
  · exact dw_pure _
  · exact dw_pure _
  · exact dw_pure _
  · exact dw_pure _
  · exact dw_bind dw_s1R (fun _ => dw_pure _)
  · exact dw_bind dw_s2R (fun _ => dw_pure _)
  · exact dw_bind dw_u1R (fun _ => dw_pure _)
  · exact dw_bind dw_u2R (fun _ => dw_pure _)
  · exact dw_bind dw_u1R (fun _ => dw_pure _)
  · exact dw_bind dw_u1R (fun _ => dw_pure _)
  · exact dw_bind dw_u1R (fun _ => dw_pure _)
  · exact dw_pure _
  · exact dw_pure _
  · exact dw_pure _
  · exact dw_pure _
  · exact dw_pure _
  · exact dw_pure _
  · exact dw_pure _
  · exact dw_pure _
  · exact dw_pure _
  · exact dw_pure _
  · exact dw_pure _
  · exact dw_pure _
  · exact dw_pure _
  · exact dw_pure _
  · exact dw_pure _
  · exact dw_pure _
  · exact dw_pure _
  · exact dw_bind dw_u1R (fun _ => dw_pure _)
  · exact dw_bind dw_u1R (fun _ => dw_pure _)
  · exact dw_bind dw_u1R (fun _ => dw_pure _)
  · exact dw_pure _
  · exact dw_pure _
  · exact dw_pure _
  · exact dw_pure _
  · exact dw_pure _
  · exact dw_pure _
  · exact dw_pure _
  · exact dw_pure _
  · exact dw_pure _
  · exact dw_pure _
  · exact dw_pure _
  · exact dw_pure _
  · exact dw_pure _
  · exact dw_pure _
  · exact dw_pure _
  · exact dw_pure _
  · exact dw_pure _
  · exact dw_pure _
  · exact dw_pure _
  · exact dw_pure _
  · exact dw_pure _
  · exact dw_pure _
  · exact dw_pure _
  · exact dw_pure _
  · exact dw_pure _
  · exact dw_pure _
  · exact dw_pure _
  · exact dw_pure _
  · exact dw_pure _
  · exact dw_pure _
  · exact dw_pure _
  · exact dw_pure _
  · exact dw_pure _
  · exact dw_pure _
  · exact dw_pure _
  · exact dw_pure _
  · exact dw_pure _
  · exact dw_pure _
  · exact dw_pure _
  · exact dw_pure _
  · exact dw_pure _
  · exact dw_bind dw_u1R (fun _ => dw_bind dw_s1R (fun _ => dw_pure _))
  · exact dw_pure _
  · exact dw_pure _
  · exact dw_pure _
  · exact dw_pure _
  · exact dw_pure _
  · exact dw_bind dw_s2R (fun _ => dw_pure _)
  · exact dw_bind dw_s2R (fun _ => dw_pure _)
  · exact dw_bind dw_s2R (fun _ => dw_pure _)
  · exact dw_bind dw_s2R (fun _ => dw_pure _)
  · exact dw_bind dw_s2R (fun _ => dw_pure _)
  · exact dw_bind dw_s2R (fun _ => dw_pure _)
  · exact dw_bind dw_s2R (fun _ => dw_pure _)
  · exact dw_bind dw_s2R (fun _ => dw_pure _)
  · exact dw_bind dw_s2R (fun _ => dw_pure _)
  · exact dw_bind dw_s2R (fun _ => dw_pure _)
  · exact dw_bind dw_s2R (fun _ => dw_pure _)
  · exact dw_bind dw_s2R (fun _ => dw_pure _)
  · exact dw_bind dw_s2R (fun _ => dw_pure _)
  · exact dw_pure _
  · exact dw_pure _
  · exact dw_pure _
  · exact dw_pure _
  · exact dw_bind dw_u2R (fun _ => dw_pure _)
  · exact dw_bind dw_u2R (fun _ => dw_pure _)
  · exact dw_bind dw_u2R (fun _ => dw_pure _)
  · exact dw_bind dw_u2R (fun _ => dw_pure _)
  · exact dw_bind dw_u2R (fun _ => dw_pure _)
  · exact dw_bind dw_u2R (fun _ => dw_pure _)
  · exact dw_bind dw_u2R (fun _ => dw_pure _)
  · exact dw_bind dw_u2R (fun _ => dw_pure _)
  · exact dw_pure _
  · exact dw_pure _
  · exact dw_bind dw_u2R (fun _ => dw_pure _)
  · exact dw_bind dw_s2R (fun _ => dw_pure _)
def dw_w (C : List UInt8) (j n : Nat) : ByteArray := ⟨((C.drop j).take n).toArray⟩
def dw_op (C : List UInt8) : Bool := match C with
  | b :: _ => decide (b.toNat ∈ dw_ops)
  | [] => false
def dw_chk (C : List UInt8) (pc j : Nat) (i : Jvm.ClassFile.Instr) (e : Nat) : Bool := dw_op (C.drop j) && (decide (1 ≤ e) && decide (Jvm.ClassFile.Reader.runAt (Jvm.ClassFile.Decoder.instr pc) (dw_w C j e) 0 = .ok (i, e)))
theorem dw_row {c : ByteArray} {a m j e pc : Nat} {C : List UInt8} {i : Jvm.ClassFile.Instr} (hC : (c.data.toList.drop a).take m = C) (hpc : pc = a + j) (h : dw_chk C pc j i e = true) : decode c pc = .ok (i, e) := by
  unfold dw_chk at h
  rw [Bool.and_eq_true, Bool.and_eq_true] at h
  obtain ⟨h1, h3, h2⟩ := h
  have he : 1 ≤ e := of_decide_eq_true h3
  have h2 := of_decide_eq_true h2
  have hw : dw_at c (dw_w C j e) pc := by
    intro k b hk
    have hk : ((C.drop j).take e)[k]? = some b := hk
    rw [List.getElem?_take] at hk
    split at hk
    · rw [List.getElem?_drop, ← hC, List.getElem?_take] at hk
      split at hk
      · rw [List.getElem?_drop] at hk
        rw [hpc, Nat.add_assoc]
        exact hk
      · cases hk
    · cases hk
  cases hd : C.drop j with
  | nil =>
    rw [hd] at h1
    cases h1
  | cons b r =>
    rw [hd] at h1
    have ho : b.toNat ∈ dw_ops := of_decide_eq_true h1
    obtain ⟨f, hf, hfo⟩ := dw_ex pc
    have h0 : (dw_w C j e).data.toList[0]? = some b := by
      show ((C.drop j).take e)[0]? = some b
      rw [hd, List.getElem?_take, if_pos (show 0 < e from he)]
      rfl
    rw [hf, dw_br (dw_u1 h0)] at h2
    have g1 := hfo _ ho c (dw_w C j e) pc (0 + 1) i e hw h2
    have g3 : Jvm.ClassFile.Reader.runAt (Jvm.ClassFile.Decoder.instr pc) c pc = .ok (i, pc + e) := by
      have q0 : c.data.toList[pc]? = some b := hw 0 b h0
      rw [hf, dw_br (dw_u1 q0)]
      exact g1
    show (Jvm.ClassFile.Reader.runAt (Jvm.ClassFile.Decoder.instr pc) c pc >>= fun r => pure (r.1, r.2 - pc)) = .ok (i, e)
    rw [g3]
    show (Except.ok (i, pc + e - pc) : Except Jvm.ClassFile.DecodeError _) = .ok (i, e)
    rw [Nat.add_sub_cancel_left]
