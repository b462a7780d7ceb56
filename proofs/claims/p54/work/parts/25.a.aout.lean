theorem ky_out11 {x : Int32} (h0 : ¬ x = 0) (h1 : ¬ x = 1) (h2 : ¬ x = 2) (h3 : ¬ x = 3) (h4 : ¬ x = 4) (h5 : ¬ x = 5) (h6 : ¬ x = 6) (h7 : ¬ x = 7) (h8 : ¬ x = 8) (h9 : ¬ x = 9) (h10 : ¬ x = 10) : x.toInt < 0 ∨ 10 < x.toInt := by
  have a0 := ky_ne (k := 0) (by decide) h0
  have a1 := ky_ne (k := 1) (by decide) h1
  have a2 := ky_ne (k := 2) (by decide) h2
  have a3 := ky_ne (k := 3) (by decide) h3
  have a4 := ky_ne (k := 4) (by decide) h4
  have a5 := ky_ne (k := 5) (by decide) h5
  have a6 := ky_ne (k := 6) (by decide) h6
  have a7 := ky_ne (k := 7) (by decide) h7
  have a8 := ky_ne (k := 8) (by decide) h8
  have a9 := ky_ne (k := 9) (by decide) h9
  have a10 := ky_ne (k := 10) (by decide) h10
  omega
theorem ky_eta {α β : Type} (p : α × β) : p = (p.1, p.2) := rfl
