theorem kc_1 : ∀ w ∈ tables_1_1, w ∈ lw_tbl := fun w h => List.mem_append_right _ (List.mem_append_left _ (h))
theorem kc_2 : ∀ w ∈ tables_1_2, w ∈ lw_tbl := fun w h => List.mem_append_right _ (List.mem_append_right _ (List.mem_append_left _ (h)))
theorem kc_3 : ∀ w ∈ tables_1_3, w ∈ lw_tbl := fun w h => List.mem_append_right _ (List.mem_append_right _ (List.mem_append_right _ (List.mem_append_left _ (h))))
theorem kc_4 : ∀ w ∈ tables_1_4, w ∈ lw_tbl := fun w h => List.mem_append_right _ (List.mem_append_right _ (List.mem_append_right _ (List.mem_append_right _ (List.mem_append_left _ (h)))))
theorem kc_5 : ∀ w ∈ tables_1_5, w ∈ lw_tbl := fun w h => List.mem_append_right _ (List.mem_append_right _ (List.mem_append_right _ (List.mem_append_right _ (List.mem_append_right _ (List.mem_append_left _ (h))))))
theorem kc_6 : ∀ w ∈ tables_1_6, w ∈ lw_tbl := fun w h => List.mem_append_right _ (List.mem_append_right _ (List.mem_append_right _ (List.mem_append_right _ (List.mem_append_right _ (List.mem_append_right _ (List.mem_append_left _ (h)))))))
theorem kc_7 : ∀ w ∈ tables_1_7, w ∈ lw_tbl := fun w h => List.mem_append_right _ (List.mem_append_right _ (List.mem_append_right _ (List.mem_append_right _ (List.mem_append_right _ (List.mem_append_right _ (List.mem_append_right _ (List.mem_append_left _ (h))))))))
theorem kc_8 : ∀ w ∈ tables_1_8, w ∈ lw_tbl := fun w h => List.mem_append_right _ (List.mem_append_right _ (List.mem_append_right _ (List.mem_append_right _ (List.mem_append_right _ (List.mem_append_right _ (List.mem_append_right _ (List.mem_append_right _ (h))))))))
def RX6 : String := "Exactdoubles"
def TX6 : u_T := fun k => match k with
  | 0 => ("Exactdoubles", "cells", "[J", true)
  | 1 => ("Exactdoubles", "scribe", "LExactdoubles$Scribe;", true)
  | 2 => ("Exactdoubles", "proof", "LExactdoubles$Proof;", true)
  | 3 => ("Exactdoubles", "given", "I", false)
  | 4 => ("Exactdoubles", "refused", "I", false)
  | _ => ("Exactdoubles", "knocks", "I", false)
def tyX6 : Nat → FieldType := fun k => match k with
  | 0 => .array .long
  | 1 => .object "Exactdoubles$Scribe"
  | 2 => .object "Exactdoubles$Proof"
  | 3 => .int
  | 4 => .int
  | _ => .int
theorem nmX6 : ∀ a, a < 6 → ∀ b, b < 6 → a ≠ b → (TX6 a).2.1 ≠ (TX6 b).2.1 := by decide +kernel
theorem tyX6_ok : ∀ k, k < 6 → parseFieldDescriptor (TX6 k).2.2.1 = some (tyX6 k) := by decide +kernel
def RX3 : String := "Exactdoubles$Scribe"
def TX3 : u_T := fun k => match k with
  | 0 => ("Exactdoubles$Scribe", "signs", "Ljava/lang/StringBuilder;", true)
  | _ => ("Exactdoubles$Scribe", "figures", "[C", true)
def tyX3 : Nat → FieldType := fun k => match k with
  | 0 => .object "java/lang/StringBuilder"
  | _ => .array .char
theorem nmX3 : ∀ a, a < 2 → ∀ b, b < 2 → a ≠ b → (TX3 a).2.1 ≠ (TX3 b).2.1 := by decide +kernel
theorem tyX3_ok : ∀ k, k < 2 → parseFieldDescriptor (TX3 k).2.2.1 = some (tyX3 k) := by decide +kernel
def RX1 : String := "Exactdoubles$Proof"
def TX1 : u_T := fun k => match k with
  | _ => ("Exactdoubles$Proof", "taken", "[[J", true)
def tyX1 : Nat → FieldType := fun k => match k with
  | _ => .array (.array .long)
theorem nmX1 : ∀ a, a < 1 → ∀ b, b < 1 → a ≠ b → (TX1 a).2.1 ≠ (TX1 b).2.1 := by decide +kernel
theorem tyX1_ok : ∀ k, k < 1 → parseFieldDescriptor (TX1 k).2.2.1 = some (tyX1 k) := by decide +kernel
def RX7 : String := "ExactdoublesLaw$Out"
def TX7 : u_T := fun k => match k with
  | 0 => ("ExactdoublesLaw$Out", "n", "J", false)
  | _ => ("ExactdoublesLaw$Out", "s", "Ljava/lang/String;", false)
def tyX7 : Nat → FieldType := fun k => match k with
  | 0 => .long
  | _ => .object "java/lang/String"
theorem nmX7 : ∀ a, a < 2 → ∀ b, b < 2 → a ≠ b → (TX7 a).2.1 ≠ (TX7 b).2.1 := by decide +kernel
theorem tyX7_ok : ∀ k, k < 2 → parseFieldDescriptor (TX7 k).2.2.1 = some (tyX7 k) := by decide +kernel
def RX8 : String := "ExactdoublesModel$Its"
def TX8 : u_T := fun k => match k with
  | 0 => ("ExactdoublesModel$Its", "side", "I", true)
  | _ => ("ExactdoublesModel$Its", "size", "J", true)
def tyX8 : Nat → FieldType := fun k => match k with
  | 0 => .int
  | _ => .long
theorem nmX8 : ∀ a, a < 2 → ∀ b, b < 2 → a ≠ b → (TX8 a).2.1 ≠ (TX8 b).2.1 := by decide +kernel
theorem tyX8_ok : ∀ k, k < 2 → parseFieldDescriptor (TX8 k).2.2.1 = some (tyX8 k) := by decide +kernel
def RX9 : String := "ExactdoublesModel"
def TX9 : u_T := fun k => match k with
  | 0 => ("ExactdoublesModel", "thrown", "I", false)
  | 1 => ("ExactdoublesModel", "cells", "[LExactdoublesModel$Its;", true)
  | 2 => ("ExactdoublesModel", "given", "I", false)
  | 3 => ("ExactdoublesModel", "refused", "I", false)
  | _ => ("ExactdoublesModel", "knocks", "I", false)
def tyX9 : Nat → FieldType := fun k => match k with
  | 0 => .int
  | 1 => .array (.object "ExactdoublesModel$Its")
  | 2 => .int
  | 3 => .int
  | _ => .int
theorem nmX9 : ∀ a, a < 5 → ∀ b, b < 5 → a ≠ b → (TX9 a).2.1 ≠ (TX9 b).2.1 := by decide +kernel
theorem tyX9_ok : ∀ k, k < 5 → parseFieldDescriptor (TX9 k).2.2.1 = some (tyX9 k) := by decide +kernel
def RJ4 : String := "java/lang/StringBuilder"
def TJ4 : u_T := fun k => match k with
  | 0 => ("java/lang/AbstractStringBuilder", "value", "[B", false)
  | 1 => ("java/lang/AbstractStringBuilder", "coder", "B", false)
  | 2 => ("java/lang/AbstractStringBuilder", "maybeLatin1", "Z", false)
  | _ => ("java/lang/AbstractStringBuilder", "count", "I", false)
def tyJ4 : Nat → FieldType := fun k => match k with
  | 0 => .array .byte
  | 1 => .byte
  | 2 => .boolean
  | _ => .int
theorem nmJ4 : ∀ a, a < 4 → ∀ b, b < 4 → a ≠ b → (TJ4 a).2.1 ≠ (TJ4 b).2.1 := by decide +kernel
theorem tyJ4_ok : ∀ k, k < 4 → parseFieldDescriptor (TJ4 k).2.2.1 = some (tyJ4 k) := by decide +kernel
def RJ0 : String := "java/lang/String"
def TJ0 : u_T := fun k => match k with
  | 0 => ("java/lang/String", "value", "[B", true)
  | 1 => ("java/lang/String", "coder", "B", true)
  | 2 => ("java/lang/String", "hash", "I", false)
  | _ => ("java/lang/String", "hashIsZero", "Z", false)
def tyJ0 : Nat → FieldType := fun k => match k with
  | 0 => .array .byte
  | 1 => .byte
  | 2 => .int
  | _ => .boolean
theorem nmJ0 : ∀ a, a < 4 → ∀ b, b < 4 → a ≠ b → (TJ0 a).2.1 ≠ (TJ0 b).2.1 := by decide +kernel
theorem tyJ0_ok : ∀ k, k < 4 → parseFieldDescriptor (TJ0 k).2.2.1 = some (tyJ0 k) := by decide +kernel
theorem ki_X6 : ∀ w ∈ u_ws RX6 TX6 6, w ∈ ky_B := (List.forall_mem_cons.mpr ⟨ky_mem (kc_1 _ (List.mem_of_getElem? (i := 104) rfl)) (by decide +kernel), (List.forall_mem_cons.mpr ⟨ky_mem (kc_1 _ (List.mem_of_getElem? (i := 106) rfl)) (by decide +kernel), (List.forall_mem_cons.mpr ⟨ky_mem (kc_1 _ (List.mem_of_getElem? (i := 108) rfl)) (by decide +kernel), (List.forall_mem_cons.mpr ⟨ky_mem (kc_1 _ (List.mem_of_getElem? (i := 110) rfl)) (by decide +kernel), (List.forall_mem_cons.mpr ⟨ky_mem (kc_1 _ (List.mem_of_getElem? (i := 112) rfl)) (by decide +kernel), (List.forall_mem_cons.mpr ⟨ky_mem (kc_1 _ (List.mem_of_getElem? (i := 114) rfl)) (by decide +kernel), (fun _ h => absurd h List.not_mem_nil)⟩)⟩)⟩)⟩)⟩)⟩)
theorem ki_X3 : ∀ w ∈ u_ws RX3 TX3 2, w ∈ ky_B := (List.forall_mem_cons.mpr ⟨ky_mem (kc_1 _ (List.mem_of_getElem? (i := 80) rfl)) (by decide +kernel), (List.forall_mem_cons.mpr ⟨ky_mem (kc_1 _ (List.mem_of_getElem? (i := 82) rfl)) (by decide +kernel), (fun _ h => absurd h List.not_mem_nil)⟩)⟩)
theorem ki_X1 : ∀ w ∈ u_ws RX1 TX1 1, w ∈ ky_B := (List.forall_mem_cons.mpr ⟨ky_mem (kc_1 _ (List.mem_of_getElem? (i := 95) rfl)) (by decide +kernel), (fun _ h => absurd h List.not_mem_nil)⟩)
theorem ki_X7 : ∀ w ∈ u_ws RX7 TX7 2, w ∈ ky_B := (List.forall_mem_cons.mpr ⟨ky_mem (kc_4 _ (List.mem_of_getElem? (i := 74) rfl)) (by decide +kernel), (List.forall_mem_cons.mpr ⟨ky_mem (kc_4 _ (List.mem_of_getElem? (i := 76) rfl)) (by decide +kernel), (fun _ h => absurd h List.not_mem_nil)⟩)⟩)
theorem ki_X8 : ∀ w ∈ u_ws RX8 TX8 2, w ∈ ky_B := (List.forall_mem_cons.mpr ⟨ky_mem (kc_6 _ (List.mem_of_getElem? (i := 14) rfl)) (by decide +kernel), (List.forall_mem_cons.mpr ⟨ky_mem (kc_6 _ (List.mem_of_getElem? (i := 16) rfl)) (by decide +kernel), (fun _ h => absurd h List.not_mem_nil)⟩)⟩)
theorem ki_X9 : ∀ w ∈ u_ws RX9 TX9 5, w ∈ ky_B := (List.forall_mem_cons.mpr ⟨ky_mem (kc_6 _ (List.mem_of_getElem? (i := 24) rfl)) (by decide +kernel), (List.forall_mem_cons.mpr ⟨ky_mem (kc_6 _ (List.mem_of_getElem? (i := 26) rfl)) (by decide +kernel), (List.forall_mem_cons.mpr ⟨ky_mem (kc_6 _ (List.mem_of_getElem? (i := 28) rfl)) (by decide +kernel), (List.forall_mem_cons.mpr ⟨ky_mem (kc_6 _ (List.mem_of_getElem? (i := 30) rfl)) (by decide +kernel), (List.forall_mem_cons.mpr ⟨ky_mem (kc_6 _ (List.mem_of_getElem? (i := 32) rfl)) (by decide +kernel), (fun _ h => absurd h List.not_mem_nil)⟩)⟩)⟩)⟩)⟩)
theorem ki_J4 : ∀ w ∈ u_ws RJ4 TJ4 4, w ∈ ky_B := (List.forall_mem_cons.mpr ⟨ky_mem (kc_1 _ (List.mem_of_getElem? (i := 67) rfl)) (by decide +kernel), (List.forall_mem_cons.mpr ⟨ky_mem (kc_1 _ (List.mem_of_getElem? (i := 69) rfl)) (by decide +kernel), (List.forall_mem_cons.mpr ⟨ky_mem (kc_1 _ (List.mem_of_getElem? (i := 71) rfl)) (by decide +kernel), (List.forall_mem_cons.mpr ⟨ky_mem (kc_1 _ (List.mem_of_getElem? (i := 73) rfl)) (by decide +kernel), (fun _ h => absurd h List.not_mem_nil)⟩)⟩)⟩)⟩)
theorem ki_J0 : ∀ w ∈ u_ws RJ0 TJ0 4, w ∈ ky_B := (List.forall_mem_cons.mpr ⟨ky_mem (kc_2 _ (List.mem_of_getElem? (i := 191) rfl)) (by decide +kernel), (List.forall_mem_cons.mpr ⟨ky_mem (kc_2 _ (List.mem_of_getElem? (i := 193) rfl)) (by decide +kernel), (List.forall_mem_cons.mpr ⟨ky_mem (kc_2 _ (List.mem_of_getElem? (i := 195) rfl)) (by decide +kernel), (List.forall_mem_cons.mpr ⟨ky_mem (kc_2 _ (List.mem_of_getElem? (i := 197) rfl)) (by decide +kernel), (fun _ h => absurd h List.not_mem_nil)⟩)⟩)⟩)⟩)
/-- the classes whose objects the worlds hold -/
abbrev kcl : List vw_C := [(RX6, TX6, 6), (RX3, TX3, 2), (RX1, TX1, 1), (RX7, TX7, 2), (RX8, TX8, 2), (RX9, TX9, 5), (RJ4, TJ4, 4), (RJ0, TJ0, 4)]
