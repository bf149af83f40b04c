/-! Small facts for the walks. -/
theorem iv_ltl {a b c d : Int} {x y : Int32} (hx : iv a b x) (hy : iv c d y) (h : x < y) : iv a (d - 1) x := ⟨hx.1, by have := iv_lt h; have := hy.2; omega⟩
theorem iv_ltr {a b c d : Int} {x y : Int32} (hx : iv a b x) (hy : iv c d y) (h : x < y) : iv (a + 1) d y := ⟨by have := iv_lt h; have := hx.1; omega, hy.2⟩
theorem iv_lel {a b c d : Int} {x y : Int32} (hx : iv a b x) (hy : iv c d y) (h : x ≤ y) : iv a d x := ⟨hx.1, by have := iv_le h; have := hy.2; omega⟩
theorem iv_ler {a b c d : Int} {x y : Int32} (hx : iv a b x) (hy : iv c d y) (h : x ≤ y) : iv a d y := ⟨by have := iv_le h; have := hx.1; omega, hy.2⟩
theorem iv_eql {c d : Int} {x y : Int32} (hy : iv c d y) (h : x = y) : iv c d x := by rw [h]; exact hy
theorem iv_eqr {c d : Int} {x y : Int32} (hx : iv c d x) (h : x = y) : iv c d y := by rw [← h]; exact hx
theorem iv_nel {a b : Int} {x y : Int32} (hx : iv a b x) (hy : y.toInt = a) (h : ¬ x = y) : iv (a + 1) b x := ⟨by have := iv_ne h; have := hx.1; omega, hx.2⟩
theorem iv_neh {a b : Int} {x y : Int32} (hx : iv a b x) (hy : y.toInt = b) (h : ¬ x = y) : iv a (b - 1) x := ⟨hx.1, by have := iv_ne h; have := hx.2; omega⟩
theorem iv_xlt {a b c d : Int} {x y : Int32} (hx : iv a b x) (hy : iv c d y) (h : d ≤ a) : ¬ x < y := fun g => by have := iv_lt g; have := hx.1; have := hy.2; omega
theorem iv_xle {a b c d : Int} {x y : Int32} (hx : iv a b x) (hy : iv c d y) (h : d < a) : ¬ x ≤ y := fun g => by have := iv_le g; have := hx.1; have := hy.2; omega
theorem iv_xeq {a b c d : Int} {x y : Int32} (hx : iv a b x) (hy : iv c d y) (h : b < c ∨ d < a) : ¬ x = y := fun g => by
  have h1 := hx.1
  have h2 := hx.2
  have h3 := hy.1
  have h4 := hy.2
  rw [g] at h1 h2
  omega
theorem iv_xne {a : Int} {x y : Int32} (hx : iv a a x) (hy : iv a a y) : x = y := Int32.toInt_inj.mp (by have := hx.1; have := hx.2; have := hy.1; have := hy.2; omega)
theorem iv_pos {a b : Int} {x : Int32} (hx : iv a b x) (h : 1 ≤ a) : ¬ x = 0 := fun e => by
  have h1 := hx.1
  rw [e] at h1
  simp at h1
  omega
theorem iv_nn {a b : Int} {x : Int32} (hx : iv a b x) (h : 0 ≤ a) : ¬ x < 0 := fun e => by
  have h1 := iv_lt e
  have h2 := hx.1
  simp at h1
  omega
theorem iv_cl {a b : Int} {x : Int32} (hx : iv a b x) (h : 0 ≤ a) : (x.toNatClampNeg : Int) = x.toInt := by
  have h1 := hx.1
  show ((x.toInt.toNat : Nat) : Int) = x.toInt
  omega
theorem iv_s2 {a b c d : Int} {n : Nat} {x y : Int32} (hx : iv a b x) (hy : iv c d y) (h1 : 0 ≤ a) (h2 : 0 ≤ c) (h : b + d ≤ n) : x.toNatClampNeg + y.toNatClampNeg ≤ n := by
  have e1 := iv_cl hx h1
  have e2 := iv_cl hy h2
  have := hx.2
  have := hy.2
  omega
theorem ac_ti1 {a b c : Int} {x y : Int32} (hx : iv a b x) (hy : iv c c y) (h1 : -2147483648 ≤ a + c) (h2 : b + c ≤ 2147483647) (_h3 : 0 < c) : (x + y).toInt = x.toInt + c := by
  rw [ti_add hx hy h1 h2]
  have := hy.1
  have := hy.2
  omega
theorem mz_upv {n : Nat} {hi a b c d : Int} {x y : Int32} (h : (hi - x.toInt).toNat < n + 1) (hx : iv a b x) (hy : iv c d y) (h1 : -2147483648 ≤ a + c) (h2 : b + d ≤ 2147483647) (h3 : 0 < c) (hz : (x + y).toInt ≤ hi) : (hi - (x + y).toInt).toNat < n := by
  rw [ti_add hx hy h1 h2] at *
  have := hy.1
  omega
theorem mz_m1 {a b : Int} {x : Int32} (hx : iv a b x) (h : -2147483648 < a) : (x + (-1)).toInt < x.toInt := by
  have h1 := ti_add (a := x.toInt) (b := x.toInt) (x := x) ⟨Int.le_refl _, Int.le_refl _⟩ (iv_c (c := -1) (x := (-1 : Int32)) (by decide)) (by have := hx.1; omega) (by have := (iv_any x).2; omega)
  rw [h1]
  have : (-1 : Int32).toInt = -1 := by decide
  omega
theorem mz_and {a b : Int} {x y : Int32} (hx : iv a b x) (h : 1 ≤ a) : ((x - 1) &&& y).toInt < x.toInt := by
  have hb := (iv_any x).2
  have h1 := iv_sub (a := x.toInt) (b := x.toInt) (x := x) ⟨Int.le_refl _, Int.le_refl _⟩ (iv_c (c := 1) (x := (1 : Int32)) (by decide)) (by have := hx.1; omega) (by omega)
  have h2 := iv_andl (y := y) (b := x.toInt - 1) (x := x - 1) ⟨by have := h1.1; have := hx.1; omega, h1.2⟩
  have := h2.2
  omega
theorem tab_out {lo hi : Int} {x : Int32} (h : lo ≤ x.toInt → x.toInt ≤ hi → False) : x.toInt < lo ∨ hi < x.toInt := by
  by_cases h1 : x.toInt < lo
  · exact Or.inl h1
  · by_cases h2 : hi < x.toInt
    · exact Or.inr h2
    · exact (h (by omega) (by omega)).elim
theorem ac_shut_iv (j : Nat) : iv 0 56 (ac_shut j) := by
  by_cases h : j < 18
  · have h1 : ∀ j, j < 18 → 0 ≤ (ac_shut j).toInt ∧ (ac_shut j).toInt ≤ 56 := by decide +kernel
    exact h1 j h
  · have h1 : ac_shut j = 0 := by
      unfold ac_shut
      rw [List.getD_eq_getElem?_getD, List.getElem?_eq_none (by simp; omega)]
      rfl
    rw [h1]
    exact ⟨by decide, by decide⟩
theorem Gd.cpy {σ τ : SS} (h : Gd σ τ) {c a b z : Nat} (hk : ac_scA c = true) (h1 : ac_al c = -2147483648) (h2 : ac_ah c = 2147483647) : Gd σ (ac_sa τ c (va_cpy (ac_ga τ c) (ac_ga τ c) a b z)) := ⟨h.1.sf (fun j => by rw [h1, h2]; exact iv_any _), h.2.sa hk⟩
theorem w64 (x : Int32) : x.toInt64.toInt = x.toInt := by simp
theorem iv_of2 {a b c d : Int} {v l h : Int32} (e : l.toInt ≤ v.toInt ∧ v.toInt ≤ h.toInt) (hl : iv a b l) (hh : iv c d h) : iv a d v := ⟨by have := hl.1; omega, by have := hh.2; omega⟩
theorem iv_of3 {a b : Int} {v h : Int32} (e : 0 ≤ v.toInt ∧ v.toInt < h.toInt) (hh : iv a b h) : iv 0 (b - 1) v := ⟨e.1, by have := hh.2; omega⟩
