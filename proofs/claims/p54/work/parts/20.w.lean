theorem ky_itp {G : ky_G} {a : Nat} {x : Int32} {y : Int64} {H : Heap} (h : va_P G.1 kcl [(a, .inr (4, [.int x, .long y]))] H) : ky_It G a (x, y) H := h
