theorem on_X6_zero (a1 : Int32) (a2 : Int32) (u : ky_BS) : ky_only ky_io (fn_X6_zero a1 a2 u) := by
  unfold fn_X6_zero
  repeat' first | with_reducible exact ky_only.ok | with_reducible exact on_cell _ | with_reducible exact on_both _ _ | with_reducible refine ky_only.bi ?_ (fun _ _ => ?_) | with_reducible refine ky_only.if ?_ ?_ | (with_reducible refine ky_only.no ?_; exact rfl)
theorem on_X6_endless (a1 : Int32) (a2 : Int32) (u : ky_BS) : ky_only ky_io (fn_X6_endless a1 a2 u) := by
  unfold fn_X6_endless
  repeat' first | with_reducible exact ky_only.ok | with_reducible exact on_cell _ | with_reducible exact on_both _ _ | with_reducible refine ky_only.bi ?_ (fun _ _ => ?_) | with_reducible refine ky_only.if ?_ ?_ | (with_reducible refine ky_only.no ?_; exact rfl)
theorem on_X6_quarters (a1 : Int32) (a2 : Int32) (u : ky_BS) : ky_only ky_io (fn_X6_quarters a1 a2 u) := by
  unfold fn_X6_quarters
  repeat' first | with_reducible exact ky_only.ok | with_reducible exact on_cell _ | with_reducible exact on_both _ _ | with_reducible refine ky_only.bi ?_ (fun _ _ => ?_) | with_reducible refine ky_only.if ?_ ?_ | (with_reducible refine ky_only.no ?_; exact rfl)
theorem on_X6_power (a1 : Int32) (a2 : Int32) (a3 : Int32) (u : ky_BS) : ky_only ky_ia (fn_X6_power a1 a2 a3 u) := by
  unfold fn_X6_power
  repeat' first | with_reducible exact ky_only.ok | with_reducible exact on_cellA _ | with_reducible exact on_bothA _ _ | with_reducible exact on_withinA _ _ _ | with_reducible refine ky_only.bi ?_ (fun _ _ => ?_) | with_reducible refine ky_only.if ?_ ?_ | (with_reducible refine ky_only.no ?_; exact Or.inl rfl)
theorem on_X6_bits (a1 : Int32) (a2 : Int32) (a3 : Int32) (u : ky_BS) : ky_only ky_io (fn_X6_bits a1 a2 a3 u) := by
  unfold fn_X6_bits
  repeat' first | with_reducible exact ky_only.ok | with_reducible exact on_cell _ | with_reducible exact on_both _ _ | with_reducible refine ky_only.bi ?_ (fun _ _ => ?_) | with_reducible refine ky_only.if ?_ ?_ | (with_reducible refine ky_only.no ?_; exact rfl)
theorem on_X6_sample (a1 : Int32) (a2 : Int32) (a3 : Int32) (u : ky_BS) : ky_only ky_ia (fn_X6_sample a1 a2 a3 u) := by
  unfold fn_X6_sample
  repeat' first | with_reducible exact ky_only.ok | with_reducible exact on_cellA _ | with_reducible exact on_bothA _ _ | with_reducible exact on_withinA _ _ _ | with_reducible refine ky_only.bi ?_ (fun _ _ => ?_) | with_reducible refine ky_only.if ?_ ?_ | (with_reducible refine ky_only.no ?_; exact Or.inl rfl)
theorem on_X6_copy (a1 : Int32) (a2 : Int32) (u : ky_BS) : ky_only ky_io (fn_X6_copy a1 a2 u) := by
  unfold fn_X6_copy
  repeat' first | with_reducible exact ky_only.ok | with_reducible exact on_cell _ | with_reducible exact on_both _ _ | with_reducible refine ky_only.bi ?_ (fun _ _ => ?_) | with_reducible refine ky_only.if ?_ ?_ | (with_reducible refine ky_only.no ?_; exact rfl)
theorem on_X6_swap (a1 : Int32) (a2 : Int32) (u : ky_BS) : ky_only ky_io (fn_X6_swap a1 a2 u) := by
  unfold fn_X6_swap
  repeat' first | with_reducible exact ky_only.ok | with_reducible exact on_cell _ | with_reducible exact on_both _ _ | with_reducible refine ky_only.bi ?_ (fun _ _ => ?_) | with_reducible refine ky_only.if ?_ ?_ | (with_reducible refine ky_only.no ?_; exact rfl)
theorem on_X6_floor (a1 : Int32) (a2 : Int32) (u : ky_BS) : ky_only ky_io (fn_X6_floor a1 a2 u) := by
  unfold fn_X6_floor
  repeat' first | with_reducible exact ky_only.ok | with_reducible exact on_cell _ | with_reducible exact on_both _ _ | with_reducible refine ky_only.bi ?_ (fun _ _ => ?_) | with_reducible refine ky_only.if ?_ ?_ | (with_reducible refine ky_only.no ?_; exact rfl)
theorem on_X6_ceil (a1 : Int32) (a2 : Int32) (u : ky_BS) : ky_only ky_io (fn_X6_ceil a1 a2 u) := by
  unfold fn_X6_ceil
  repeat' first | with_reducible exact ky_only.ok | with_reducible exact on_cell _ | with_reducible exact on_both _ _ | with_reducible refine ky_only.bi ?_ (fun _ _ => ?_) | with_reducible refine ky_only.if ?_ ?_ | (with_reducible refine ky_only.no ?_; exact rfl)
theorem on_X6_rint (a1 : Int32) (a2 : Int32) (u : ky_BS) : ky_only ky_io (fn_X6_rint a1 a2 u) := by
  unfold fn_X6_rint
  repeat' first | with_reducible exact ky_only.ok | with_reducible exact on_cell _ | with_reducible exact on_both _ _ | with_reducible refine ky_only.bi ?_ (fun _ _ => ?_) | with_reducible refine ky_only.if ?_ ?_ | (with_reducible refine ky_only.no ?_; exact rfl)
theorem on_X6_size (a1 : Int32) (a2 : Int32) (u : ky_BS) : ky_only ky_io (fn_X6_size a1 a2 u) := by
  unfold fn_X6_size
  repeat' first | with_reducible exact ky_only.ok | with_reducible exact on_cell _ | with_reducible exact on_both _ _ | with_reducible refine ky_only.bi ?_ (fun _ _ => ?_) | with_reducible refine ky_only.if ?_ ?_ | (with_reducible refine ky_only.no ?_; exact rfl)
theorem on_X6_turn (a1 : Int32) (a2 : Int32) (u : ky_BS) : ky_only ky_io (fn_X6_turn a1 a2 u) := by
  unfold fn_X6_turn
  repeat' first | with_reducible exact ky_only.ok | with_reducible exact on_cell _ | with_reducible exact on_both _ _ | with_reducible refine ky_only.bi ?_ (fun _ _ => ?_) | with_reducible refine ky_only.if ?_ ?_ | (with_reducible refine ky_only.no ?_; exact rfl)
theorem on_X6_sign (a1 : Int32) (a2 : Int32) (u : ky_BS) : ky_only ky_io (fn_X6_sign a1 a2 u) := by
  unfold fn_X6_sign
  repeat' first | with_reducible exact ky_only.ok | with_reducible exact on_cell _ | with_reducible exact on_both _ _ | with_reducible refine ky_only.bi ?_ (fun _ _ => ?_) | with_reducible refine ky_only.if ?_ ?_ | (with_reducible refine ky_only.no ?_; exact rfl)
theorem on_X6_up (a1 : Int32) (a2 : Int32) (u : ky_BS) : ky_only ky_io (fn_X6_up a1 a2 u) := by
  unfold fn_X6_up
  repeat' first | with_reducible exact ky_only.ok | with_reducible exact on_cell _ | with_reducible exact on_both _ _ | with_reducible refine ky_only.bi ?_ (fun _ _ => ?_) | with_reducible refine ky_only.if ?_ ?_ | (with_reducible refine ky_only.no ?_; exact rfl)
theorem on_X6_down (a1 : Int32) (a2 : Int32) (u : ky_BS) : ky_only ky_io (fn_X6_down a1 a2 u) := by
  unfold fn_X6_down
  repeat' first | with_reducible exact ky_only.ok | with_reducible exact on_cell _ | with_reducible exact on_both _ _ | with_reducible refine ky_only.bi ?_ (fun _ _ => ?_) | with_reducible refine ky_only.if ?_ ?_ | (with_reducible refine ky_only.no ?_; exact rfl)
theorem on_X6_step (a1 : Int32) (a2 : Int32) (u : ky_BS) : ky_only ky_io (fn_X6_step a1 a2 u) := by
  unfold fn_X6_step
  repeat' first | with_reducible exact ky_only.ok | with_reducible exact on_cell _ | with_reducible exact on_both _ _ | with_reducible refine ky_only.bi ?_ (fun _ _ => ?_) | with_reducible refine ky_only.if ?_ ?_ | (with_reducible refine ky_only.no ?_; exact rfl)
theorem on_X6_unit (a1 : Int32) (a2 : Int32) (u : ky_BS) : ky_only ky_io (fn_X6_unit a1 a2 u) := by
  unfold fn_X6_unit
  repeat' first | with_reducible exact ky_only.ok | with_reducible exact on_cell _ | with_reducible exact on_both _ _ | with_reducible refine ky_only.bi ?_ (fun _ _ => ?_) | with_reducible refine ky_only.if ?_ ?_ | (with_reducible refine ky_only.no ?_; exact rfl)
theorem on_X6_times (a1 : Int32) (a2 : Int32) (a3 : Int32) (u : ky_BS) : ky_only ky_io (fn_X6_times a1 a2 a3 u) := by
  unfold fn_X6_times
  repeat' first | with_reducible exact ky_only.ok | with_reducible exact on_cell _ | with_reducible exact on_both _ _ | with_reducible refine ky_only.bi ?_ (fun _ _ => ?_) | with_reducible refine ky_only.if ?_ ?_ | (with_reducible refine ky_only.no ?_; exact rfl)
theorem on_X6_side (a1 : Int32) (a2 : Int32) (a3 : Int32) (u : ky_BS) : ky_only ky_io (fn_X6_side a1 a2 a3 u) := by
  unfold fn_X6_side
  repeat' first | with_reducible exact ky_only.ok | with_reducible exact on_cell _ | with_reducible exact on_both _ _ | with_reducible refine ky_only.bi ?_ (fun _ _ => ?_) | with_reducible refine ky_only.if ?_ ?_ | (with_reducible refine ky_only.no ?_; exact rfl)
theorem on_X6_max (a1 : Int32) (a2 : Int32) (a3 : Int32) (u : ky_BS) : ky_only ky_io (fn_X6_max a1 a2 a3 u) := by
  unfold fn_X6_max
  repeat' first | with_reducible exact ky_only.ok | with_reducible exact on_cell _ | with_reducible exact on_both _ _ | with_reducible refine ky_only.bi ?_ (fun _ _ => ?_) | with_reducible refine ky_only.if ?_ ?_ | (with_reducible refine ky_only.no ?_; exact rfl)
theorem on_X6_min (a1 : Int32) (a2 : Int32) (a3 : Int32) (u : ky_BS) : ky_only ky_io (fn_X6_min a1 a2 a3 u) := by
  unfold fn_X6_min
  repeat' first | with_reducible exact ky_only.ok | with_reducible exact on_cell _ | with_reducible exact on_both _ _ | with_reducible refine ky_only.bi ?_ (fun _ _ => ?_) | with_reducible refine ky_only.if ?_ ?_ | (with_reducible refine ky_only.no ?_; exact rfl)
theorem on_X6_walk (a1 : Int32) (a2 : Int32) (u : ky_BS) : ky_only ky_ia (fn_X6_walk a1 a2 u) := by
  unfold fn_X6_walk
  repeat' first | with_reducible exact ky_only.ok | with_reducible exact on_cellA _ | with_reducible exact on_bothA _ _ | with_reducible exact on_withinA _ _ _ | with_reducible refine ky_only.bi ?_ (fun _ _ => ?_) | with_reducible refine ky_only.if ?_ ?_ | (with_reducible refine ky_only.no ?_; exact Or.inl rfl)
theorem on_X6_kind (a1 : Int32) (u : ky_BS) : ky_only ky_io (fn_X6_kind a1 u) := by
  unfold fn_X6_kind
  repeat' first | with_reducible exact ky_only.ok | with_reducible exact on_cell _ | with_reducible exact on_both _ _ | with_reducible refine ky_only.bi ?_ (fun _ _ => ?_) | with_reducible refine ky_only.if ?_ ?_ | (with_reducible refine ky_only.no ?_; exact rfl)
theorem on_X6_digits (a1 : Int32) (a2 : Int32) (u : ky_BS) : ky_only ky_ia (fn_X6_digits a1 a2 u) := by
  unfold fn_X6_digits
  repeat' first | with_reducible exact ky_only.ok | with_reducible exact on_cellA _ | with_reducible exact on_bothA _ _ | with_reducible exact on_withinA _ _ _ | with_reducible refine ky_only.bi ?_ (fun _ _ => ?_) | with_reducible refine ky_only.if ?_ ?_ | (with_reducible refine ky_only.no ?_; exact Or.inl rfl)
theorem on_X6_exponent (a1 : Int32) (u : ky_BS) : ky_only ky_io (fn_X6_exponent a1 u) := by
  unfold fn_X6_exponent
  repeat' first | with_reducible exact ky_only.ok | with_reducible exact on_cell _ | with_reducible exact on_both _ _ | with_reducible refine ky_only.bi ?_ (fun _ _ => ?_) | with_reducible refine ky_only.if ?_ ?_ | (with_reducible refine ky_only.no ?_; exact rfl)
theorem on_X6_round (a1 : Int32) (a2 : Int32) (u : ky_BS) : ky_only ky_io (fn_X6_round a1 a2 u) := by
  unfold fn_X6_round
  repeat' first | with_reducible exact ky_only.ok | with_reducible exact on_cell _ | with_reducible exact on_both _ _ | with_reducible refine ky_only.bi ?_ (fun _ _ => ?_) | with_reducible refine ky_only.if ?_ ?_ | (with_reducible refine ky_only.no ?_; exact rfl)
theorem on_X6_shortened (a1 : Int32) (u : ky_BS) : ky_only ky_io (fn_X6_shortened a1 u) := by
  unfold fn_X6_shortened
  repeat' first | with_reducible exact ky_only.ok | with_reducible exact on_cell _ | with_reducible exact on_both _ _ | with_reducible refine ky_only.bi ?_ (fun _ _ => ?_) | with_reducible refine ky_only.if ?_ ?_ | (with_reducible refine ky_only.no ?_; exact rfl)
theorem on_X6_signed (a1 : Int32) (u : ky_BS) : ky_only ky_io (fn_X6_signed a1 u) := by
  unfold fn_X6_signed
  repeat' first | with_reducible exact ky_only.ok | with_reducible exact on_cell _ | with_reducible exact on_both _ _ | with_reducible refine ky_only.bi ?_ (fun _ _ => ?_) | with_reducible refine ky_only.if ?_ ?_ | (with_reducible refine ky_only.no ?_; exact rfl)
theorem on_X6_isWhole (a1 : Int32) (u : ky_BS) : ky_only ky_io (fn_X6_isWhole a1 u) := by
  unfold fn_X6_isWhole
  repeat' first | with_reducible exact ky_only.ok | with_reducible exact on_cell _ | with_reducible exact on_both _ _ | with_reducible refine ky_only.bi ?_ (fun _ _ => ?_) | with_reducible refine ky_only.if ?_ ?_ | (with_reducible refine ky_only.no ?_; exact rfl)
theorem on_X6_compare (a1 : Int32) (a2 : Int32) (u : ky_BS) : ky_only ky_io (fn_X6_compare a1 a2 u) := by
  unfold fn_X6_compare
  repeat' first | with_reducible exact ky_only.ok | with_reducible exact on_cell _ | with_reducible exact on_both _ _ | with_reducible refine ky_only.bi ?_ (fun _ _ => ?_) | with_reducible refine ky_only.if ?_ ?_ | (with_reducible refine ky_only.no ?_; exact rfl)
theorem on_X6_areLike (a1 : Int32) (a2 : Int32) (u : ky_BS) : ky_only ky_io (fn_X6_areLike a1 a2 u) := by
  unfold fn_X6_areLike
  repeat' first | with_reducible exact ky_only.ok | with_reducible exact on_cell _ | with_reducible exact on_both _ _ | with_reducible refine ky_only.bi ?_ (fun _ _ => ?_) | with_reducible refine ky_only.if ?_ ?_ | (with_reducible refine ky_only.no ?_; exact rfl)
theorem on_X6_isBelow (a1 : Int32) (a2 : Int32) (u : ky_BS) : ky_only ky_io (fn_X6_isBelow a1 a2 u) := by
  unfold fn_X6_isBelow
  repeat' first | with_reducible exact ky_only.ok | with_reducible exact on_cell _ | with_reducible exact on_both _ _ | with_reducible refine ky_only.bi ?_ (fun _ _ => ?_) | with_reducible refine ky_only.if ?_ ?_ | (with_reducible refine ky_only.no ?_; exact rfl)
theorem on_X6_areSame (a1 : Int32) (a2 : Int32) (u : ky_BS) : ky_only ky_io (fn_X6_areSame a1 a2 u) := by
  unfold fn_X6_areSame
  repeat' first | with_reducible exact ky_only.ok | with_reducible exact on_cell _ | with_reducible exact on_both _ _ | with_reducible refine ky_only.bi ?_ (fun _ _ => ?_) | with_reducible refine ky_only.if ?_ ?_ | (with_reducible refine ky_only.no ?_; exact rfl)
theorem on_X6_isNext (a1 : Int32) (a2 : Int32) (u : ky_BS) : ky_only ky_io (fn_X6_isNext a1 a2 u) := by
  unfold fn_X6_isNext
  repeat' first | with_reducible exact ky_only.ok | with_reducible exact on_cell _ | with_reducible exact on_both _ _ | with_reducible refine ky_only.bi ?_ (fun _ _ => ?_) | with_reducible refine ky_only.if ?_ ?_ | (with_reducible refine ky_only.no ?_; exact rfl)
theorem on_X6_apart (a1 : Int32) (a2 : Int32) (u : ky_BS) : ky_only ky_io (fn_X6_apart a1 a2 u) := by
  unfold fn_X6_apart
  repeat' first | with_reducible exact ky_only.ok | with_reducible exact on_cell _ | with_reducible exact on_both _ _ | with_reducible refine ky_only.bi ?_ (fun _ _ => ?_) | with_reducible refine ky_only.if ?_ ?_ | (with_reducible refine ky_only.no ?_; exact rfl)
theorem on_X6_place (a1 : Int32) (u : ky_BS) : ky_only ky_io (fn_X6_place a1 u) := by
  unfold fn_X6_place
  repeat' first | with_reducible exact ky_only.ok | with_reducible exact on_cell _ | with_reducible exact on_both _ _ | with_reducible refine ky_only.bi ?_ (fun _ _ => ?_) | with_reducible refine ky_only.if ?_ ?_ | (with_reducible refine ky_only.no ?_; exact rfl)
theorem on_X6_isBack (a1 : Int32) (a2 : Int32) (u : ky_BS) : ky_only ky_ia (fn_X6_isBack a1 a2 u) := by
  unfold fn_X6_isBack
  repeat' first | with_reducible exact ky_only.ok | with_reducible exact on_cellA _ | with_reducible exact on_bothA _ _ | with_reducible exact on_withinA _ _ _ | with_reducible refine ky_only.bi ?_ (fun _ _ => ?_) | with_reducible refine ky_only.if ?_ ?_ | (with_reducible refine ky_only.no ?_; exact Or.inl rfl)
theorem on_X6_house (a1 : Int32) (u : ky_BS) : ky_only ky_ig (fn_X6_house a1 u) := by
  unfold fn_X6_house
  with_reducible exact ky_only.bi (on_within _ _ _) (fun _ _ => ky_only.ok)
