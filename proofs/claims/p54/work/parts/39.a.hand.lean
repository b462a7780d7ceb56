/-! the scribe: its object, its row of signs, its builder -/
theorem ky_capc {m a b : Nat} (h : ky_m2 m) (hab : a ≤ b) (hb : b ≤ 34) : ky_cap (ky_cap m a) b = ky_cap m b := by
  unfold ky_cap
  rcases h with rfl | rfl <;> (repeat' split) <;> omega
theorem ky_gcc {m a b : Nat} (h : ky_m2 m) (hab : a ≤ b) (hb : b ≤ 34) : ky_gc m a + ky_gc (ky_cap m a) b = ky_gc m b := by
  unfold ky_gc ky_cap
  rcases h with rfl | rfl <;> (repeat' split) <;> omega
theorem ky_gsc {m a b : Nat} (h : ky_m2 m) (hab : a ≤ b) (hb : b ≤ 34) : ky_gs m a + ky_gs (ky_cap m a) b = ky_gs m b := by
  unfold ky_gs ky_cap
  rcases h with rfl | rfl <;> (repeat' split) <;> omega
theorem ky_gmost (m q : Nat) : ky_gc m q ≤ 1 ∧ ky_gs m q ≤ 34 := by
  unfold ky_gc ky_gs
  split <;> omega
def ky_chs (f : Nat → Int32) : Prop := ∀ i : Nat, ¬ (255 : Int32) < f i
theorem ky_chs0 : ky_chs (fun _ => 0) := fun _ => (show ¬ (255 : Int32) < 0 from by decide)
theorem ky_chsU {f : Nat → Int32} (h : ky_chs f) (k : Nat) {x : Int32} (hx : ¬ (255 : Int32) < x) : ky_chs (upd f k x) := by
  intro i
  by_cases e : i = k
  · rw [e, pk_us]; exact hx
  · rw [pk_un e]; exact h i
abbrev ky_WC (G : ky_G) (sc fg : Nat) (fc : Nat → Int32) (b va m n : Nat) (f : Nat → Int32) (ml : Int32) : va_W := [(sc, .inr (1, [.ref b, .ref fg])), (fg, .inl (G.2.1 1, 19, .inl fc)), (b, .inr (6, [.ref va, .int 0, .int ml, .int (nI n)])), (va, .inl (G.2.1 0, m, .inl f))]
theorem ky_tdiv10 (v : Nat) : (-(v : Int)).tdiv 10 = -((v / 10 : Nat) : Int) := by
  rw [Int.neg_tdiv]
  rfl
theorem ky_div10J {x : Int64} {v : Nat} (hv : x.toInt = -(v : Int)) : (x / 10).toInt = -((v / 10 : Nat) : Int) := by
  have h1 := Int64.le_toInt x
  have h2 := Int64.toInt_lt x
  rw [Int64.toInt_div, hv, show (10 : Int64).toInt = 10 from rfl, ky_tdiv10]
  apply Int.bmod_eq_of_le <;> omega
theorem ky_dig {x : Int64} {v : Nat} (hv : x.toInt = -(v : Int)) : ((48 : Int64) - (x - x / 10 * 10)).toInt32 = nI (48 + v % 10) := by
  have h1 := Int64.le_toInt x
  have h2 := Int64.toInt_lt x
  have h3 : (x - x / 10 * 10).toInt = -((v % 10 : Nat) : Int) := by
    rw [Int64.toInt_sub, Int64.toInt_mul, ky_div10J hv, hv, show (10 : Int64).toInt = 10 from rfl, Int.bmod_eq_of_le (n := -((v / 10 : Nat) : Int) * 10) (by omega) (by omega)]
    rw [show -(v : Int) - -((v / 10 : Nat) : Int) * 10 = -((v % 10 : Nat) : Int) by omega]
    apply Int.bmod_eq_of_le <;> omega
  have h4 : ((48 : Int64) - (x - x / 10 * 10)).toInt = ((48 + v % 10 : Nat) : Int) := by
    rw [Int64.toInt_sub, h3, show (48 : Int64).toInt = 48 from rfl]
    rw [show (48 : Int) - -((v % 10 : Nat) : Int) = ((48 + v % 10 : Nat) : Int) by omega]
    apply Int.bmod_eq_of_le <;> omega
  apply Int32.toInt_inj.mp
  rw [Int64.toInt_toInt32, h4, nI_toInt (by omega)]
  apply Int.bmod_eq_of_le <;> omega
theorem ky_dch {x : Int64} {v : Nat} (hv : x.toInt = -(v : Int)) : ¬ (255 : Int32) < vp_nar .char ((((48 : Int64) - (x - x / 10 * 10)).toInt32.toUInt32 % 65536).toInt32) := by
  rw [ky_dig hv, pk_char, pk_tn (by omega), Nat.mod_eq_of_lt (by omega)]
  have e : vp_nar .char (nI (48 + v % 10)) = nI (48 + v % 10) := by
    unfold vp_nar
    rw [(pk_charN (by omega)).1]
  rw [e]
  exact nI_nlt (a := 255) (by omega) (by omega)
theorem ky_z10 {x : Int64} {v : Nat} (hv : x.toInt = -(v : Int)) (h : lg_cmp (x / 10) 0 = 0) : v < 10 := by
  have h2 : (x / 10).toInt = 0 := by rw [(lg_cmp_eq _ _).mp h]; rfl
  rw [ky_div10J hv] at h2
  omega
theorem ky_nz10 {x : Int64} {v : Nat} (hv : x.toInt = -(v : Int)) (h : ¬ lg_cmp (x / 10) 0 = 0) : 10 ≤ v := by
  have h2 : ¬ (x / 10) = 0 := fun z => h ((lg_cmp_eq _ _).mpr z)
  have h3 : ¬ (x / 10).toInt = 0 := fun z => h2 (Int64.toInt_inj.mp z)
  rw [ky_div10J hv] at h3
  omega
theorem ky_dd10 {v : Nat} (h : 10 ≤ v) (hv : v < 10 ^ 20) : ky_d v = ky_d (v / 10) + 1 := by
  have h2 : v / 10 < 10 ^ 30 := Nat.lt_of_le_of_lt (Nat.div_le_self _ _) (Nat.lt_trans hv (by decide))
  unfold ky_d
  rw [ky_dgC 29 (v / 10) h2]
  rw [show (30 : Nat) = 29 + 1 from rfl, ky_dg, if_neg (by omega)]
theorem ky_dJ {x : Int64} {v : Nat} (hv : x.toInt = -(v : Int)) : ky_d v ≤ 19 := by
  have h1 := Int64.le_toInt x
  exact ky_dgL 30 18 v (by omega)
/-! the odd factor and its power, as appendSize finds them -/
def ky_sh : Nat → Int32
  | 7 => 32 | 6 => 16 | 5 => 8 | 4 => 4 | 3 => 2 | 2 => 1 | _ => 0
def ky_od : Nat → Int64 → Int32 → Int64 × Int32
  | 0, o, p => (o, p)
  | n + 1, o, p => if ky_sh (n + 1) ≤ 0 then (o, p) else if o &&& (jlshl 1 (ky_sh (n + 1)) - 1) = 0 then ky_od n (jlushr o (ky_sh (n + 1))) (p + ky_sh (n + 1)) else ky_od n o p
theorem ky_sh_next : ∀ n, n < 7 → ¬ ky_sh (n + 1) ≤ 0 → ky_sh (n + 1) >>> ((1 : Int32) &&& 31) = ky_sh n ∧ 1 ≤ n := by decide
theorem ky_od0 {n : Nat} {o : Int64} {p : Int32} (h : ky_sh (n + 1) ≤ 0) : ky_od (n + 1) o p = (o, p) := by rw [ky_od, if_pos h]
theorem ky_od1 {n : Nat} {o : Int64} {p : Int32} (h : ¬ ky_sh (n + 1) ≤ 0) (h2 : o &&& (jlshl 1 (ky_sh (n + 1)) - 1) = 0) : ky_od (n + 1) o p = ky_od n (jlushr o (ky_sh (n + 1))) (p + ky_sh (n + 1)) := by rw [ky_od, if_neg h, if_pos h2]
theorem ky_od2 {n : Nat} {o : Int64} {p : Int32} (h : ¬ ky_sh (n + 1) ≤ 0) (h2 : ¬ o &&& (jlshl 1 (ky_sh (n + 1)) - 1) = 0) : ky_od (n + 1) o p = ky_od n o p := by rw [ky_od, if_neg h, if_neg h2]
theorem ky_ushr_nn {o : Int64} (h : 0 ≤ o.toInt) : ∀ n, n < 7 → 0 ≤ (jlushr o (ky_sh (n + 1))).toInt := by
  obtain ⟨k, hk, rfl⟩ := pk_lOf (x := o) (fun z => by have := ky_negJ z; omega)
  have key : ∀ j, j < 64 → 0 ≤ (jlushr (lN k) (nI j)).toInt := by
    intro j hj
    unfold jlushr
    rw [wb_shr (by omega) hj, pk_lT (Nat.lt_of_le_of_lt (Nat.div_le_self _ _) hk)]
    exact Int.natCast_nonneg _
  intro n hn
  have : n = 0 ∨ n = 1 ∨ n = 2 ∨ n = 3 ∨ n = 4 ∨ n = 5 ∨ n = 6 := by omega
  rcases this with rfl | rfl | rfl | rfl | rfl | rfl | rfl
  · exact key 0 (by decide)
  · exact key 1 (by decide)
  · exact key 2 (by decide)
  · exact key 4 (by decide)
  · exact key 8 (by decide)
  · exact key 16 (by decide)
  · exact key 32 (by decide)
theorem ky_od_nn : ∀ (n : Nat) (o : Int64) (p : Int32), n ≤ 7 → 0 ≤ o.toInt → 0 ≤ (ky_od n o p).1.toInt := by
  intro n
  induction n with
  | zero => intro o p _ h; exact h
  | succ n ih =>
    intro o p hn h
    by_cases h1 : ky_sh (n + 1) ≤ 0
    · rw [ky_od0 h1]; exact h
    · by_cases h2 : o &&& (jlshl 1 (ky_sh (n + 1)) - 1) = 0
      · rw [ky_od1 h1 h2]; exact ih _ _ (by omega) (ky_ushr_nn h n (by omega))
      · rw [ky_od2 h1 h2]; exact ih _ _ (by omega) h
theorem ky_szJ_nn {x : Int64} (h : 0 ≤ x.toInt) : ky_szJ x ≤ 19 := by
  have h2 := Int64.toInt_lt x
  have h4 := ky_dgL 30 18 x.toInt.natAbs (by omega)
  have h5 : ¬ x < 0 := fun z => by have := ky_negJ z; omega
  unfold ky_szJ ky_d
  rw [if_neg h5]
  omega
theorem ky_rc {m a b q : Nat} (h : ky_m2 m) (hab : a ≤ b) (hb : b ≤ q) (hq : q ≤ 34) : ky_gc m a + ky_gc (ky_cap m a) b ≤ ky_gc m q ∧ ky_gs m a + ky_gs (ky_cap m a) b ≤ ky_gs m q := by
  unfold ky_gc ky_gs ky_cap
  rcases h with rfl | rfl <;> (repeat' split) <;> omega
theorem ky_rc0 {m b q : Nat} (h : ky_m2 m) (hb : b ≤ q) (hq : q ≤ 34) : 0 + ky_gc m b ≤ ky_gc m q ∧ 0 + ky_gs m b ≤ ky_gs m q := by
  unfold ky_gc ky_gs
  rcases h with rfl | rfl <;> (repeat' split) <;> omega
theorem ky_rc1 {m a b : Nat} (h : ky_m2 m) (hab : a ≤ b) (hb : b ≤ 34) : ky_gc m a + ky_gc (ky_cap m a) b ≤ 1 ∧ ky_gs m a + ky_gs (ky_cap m a) b ≤ 34 := by
  unfold ky_gc ky_gs ky_cap
  rcases h with rfl | rfl <;> (repeat' split) <;> omega
theorem ky_rc2 {m b : Nat} : 0 + ky_gc m b ≤ 1 ∧ 0 + ky_gs m b ≤ 34 := by
  unfold ky_gc ky_gs
  split <;> omega
theorem ky_gc0 (m : Nat) : ky_gc m 0 = 0 := if_pos (Nat.zero_le _)
theorem ky_gs0 (m : Nat) : ky_gs m 0 = 0 := if_pos (Nat.zero_le _)
theorem ky_odE {n : Nat} {o a : Int64} {p b : Int32} (hR : ky_od (n + 1) o p = ky_od 7 a b) (h : ky_sh (n + 1) ≤ 0) : o = (ky_od 7 a b).1 ∧ p = (ky_od 7 a b).2 := by
  rw [← hR, ky_od0 h]
  exact ⟨rfl, rfl⟩
theorem ky_m2.le34 {m : Nat} (h : ky_m2 m) : m ≤ 34 := by rcases h with rfl | rfl <;> decide
