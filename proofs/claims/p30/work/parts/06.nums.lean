/-! Intervals of ints. -/
def iv (lo hi : Int) (x : Int32) : Prop := lo ≤ x.toInt ∧ x.toInt ≤ hi
theorem iv_any (x : Int32) : iv (-2147483648) 2147483647 x := ⟨x.minValue_le_toInt, by have := x.toInt_lt; omega⟩
theorem iv_wk {a b c d : Int} {x : Int32} (h : iv a b x) (h1 : c ≤ a) (h2 : b ≤ d) : iv c d x := ⟨Int.le_trans h1 h.1, Int.le_trans h.2 h2⟩
theorem iv_c {c : Int} {x : Int32} (h : x.toInt = c) : iv c c x := ⟨by rw [h]; exact Int.le_refl _, by rw [h]; exact Int.le_refl _⟩
theorem iv_meet {a b c d : Int} {x : Int32} (h : iv a b x) (g : iv c d x) : iv (max a c) (min b d) x := ⟨by have := h.1; have := g.1; omega, by have := h.2; have := g.2; omega⟩
theorem iv_lo {a b c : Int} {x : Int32} (h : iv a b x) (g : c ≤ x.toInt) : iv c b x := ⟨g, h.2⟩
theorem iv_hi {a b c : Int} {x : Int32} (h : iv a b x) (g : x.toInt ≤ c) : iv a c x := ⟨h.1, g⟩
theorem bm32 {z : Int} (h1 : -2147483648 ≤ z) (h2 : z ≤ 2147483647) : z.bmod (2 ^ 32) = z := by
  rw [Int.bmod_eq_of_le] <;> omega
theorem ti_add {a b c d : Int} {x y : Int32} (hx : iv a b x) (hy : iv c d y) (h1 : -2147483648 ≤ a + c) (h2 : b + d ≤ 2147483647) : (x + y).toInt = x.toInt + y.toInt := by
  rw [Int32.toInt_add]
  exact bm32 (by have := hx.1; have := hy.1; omega) (by have := hx.2; have := hy.2; omega)
theorem ti_sub {a b c d : Int} {x y : Int32} (hx : iv a b x) (hy : iv c d y) (h1 : -2147483648 ≤ a - d) (h2 : b - c ≤ 2147483647) : (x - y).toInt = x.toInt - y.toInt := by
  rw [Int32.toInt_sub]
  exact bm32 (by have := hx.1; have := hy.2; omega) (by have := hx.2; have := hy.1; omega)
theorem iv_add {a b c d : Int} {x y : Int32} (hx : iv a b x) (hy : iv c d y) (h1 : -2147483648 ≤ a + c) (h2 : b + d ≤ 2147483647) : iv (a + c) (b + d) (x + y) := by
  have e := ti_add hx hy h1 h2
  exact ⟨by rw [e]; have := hx.1; have := hy.1; omega, by rw [e]; have := hx.2; have := hy.2; omega⟩
theorem iv_sub {a b c d : Int} {x y : Int32} (hx : iv a b x) (hy : iv c d y) (h1 : -2147483648 ≤ a - d) (h2 : b - c ≤ 2147483647) : iv (a - d) (b - c) (x - y) := by
  have e := ti_sub hx hy h1 h2
  exact ⟨by rw [e]; have := hx.1; have := hy.2; omega, by rw [e]; have := hx.2; have := hy.1; omega⟩
theorem ti_mul {b d : Int} {x y : Int32} (hx : iv 0 b x) (hy : iv 0 d y) (h2 : b * d ≤ 2147483647) : (x * y).toInt = x.toInt * y.toInt ∧ 0 ≤ x.toInt * y.toInt ∧ x.toInt * y.toInt ≤ b * d := by
  have h0 : 0 ≤ x.toInt * y.toInt := Int.mul_nonneg hx.1 hy.1
  have h1 : x.toInt * y.toInt ≤ b * d := Int.mul_le_mul hx.2 hy.2 hy.1 (Int.le_trans hx.1 hx.2)
  refine ⟨?_, h0, h1⟩
  rw [Int32.toInt_mul]
  exact bm32 (by omega) (by omega)
theorem iv_mul {b d : Int} {x y : Int32} (hx : iv 0 b x) (hy : iv 0 d y) (h2 : b * d ≤ 2147483647) : iv 0 (b * d) (x * y) := by
  obtain ⟨e, h0, h1⟩ := ti_mul hx hy h2
  exact ⟨by rw [e]; exact h0, by rw [e]; exact h1⟩
theorem nI_all (x : Int32) : x = nI x.toBitVec.toNat := by
  apply Int32.toBitVec_inj.mp
  apply BitVec.eq_of_toNat_eq
  simp [nI]
theorem nI_iv {b : Int} {x : Int32} (h : iv 0 b x) : ∃ n : Nat, x = nI n ∧ (n : Int) = x.toInt ∧ n < 2 ^ 31 := by
  obtain ⟨j, hj, e⟩ := nI_of (x := x) (by rw [Int32.lt_iff_toInt_lt]; have := h.1; simp; omega)
  exact ⟨j, e, by rw [e, nI_toInt hj], hj⟩
theorem iv_nI {b : Int} {n : Nat} (h : (n : Int) ≤ b) (h2 : n < 2 ^ 31) : iv 0 b (nI n) := ⟨by rw [nI_toInt h2]; omega, by rw [nI_toInt h2]; exact h⟩
theorem nI_and (a b : Nat) : nI a &&& nI b = nI (a &&& b) := by
  apply Int32.toBitVec_inj.mp
  apply BitVec.eq_of_toNat_eq
  simp [nI]
theorem nI_or (a b : Nat) : nI a ||| nI b = nI (a ||| b) := by
  apply Int32.toBitVec_inj.mp
  apply BitVec.eq_of_toNat_eq
  simp [nI]
theorem iv_andr {b : Int} {x y : Int32} (hy : iv 0 b y) : iv 0 b (x &&& y) := by
  obtain ⟨n, e, e2, hn⟩ := nI_iv hy
  rw [nI_all x, e, nI_and]
  have h1 : x.toBitVec.toNat &&& n ≤ n := Nat.and_le_right
  have := hy.2
  exact iv_nI (by omega) (by omega)
theorem iv_andl {b : Int} {x y : Int32} (hx : iv 0 b x) : iv 0 b (x &&& y) := by
  obtain ⟨n, e, e2, hn⟩ := nI_iv hx
  rw [nI_all y, e, nI_and]
  have h1 : n &&& y.toBitVec.toNat ≤ n := Nat.and_le_left
  have := hx.2
  exact iv_nI (by omega) (by omega)
theorem ti_andl {b : Int} {x y : Int32} (hx : iv 0 b x) : (x &&& y).toInt ≤ x.toInt := by
  have h := iv_andl (y := y) (b := x.toInt) (x := x) ⟨hx.1, Int.le_refl _⟩
  exact h.2
theorem iv_or {b d : Int} {x y : Int32} (k : Nat) (hx : iv 0 b x) (hy : iv 0 d y) (hk : k ≤ 31) (h1 : b < 2 ^ k) (h2 : d < 2 ^ k) : iv 0 (2 ^ k - 1) (x ||| y) := by
  obtain ⟨n, e, e2, hn⟩ := nI_iv hx
  obtain ⟨m, f, f2, hm⟩ := nI_iv hy
  rw [e, f, nI_or]
  have h3 : n < 2 ^ k := by have := hx.2; have h9 : ((2 ^ k : Nat) : Int) = (2 : Int) ^ k := by norm_cast
                            omega
  have h4 : m < 2 ^ k := by have := hy.2; have h9 : ((2 ^ k : Nat) : Int) = (2 : Int) ^ k := by norm_cast
                            omega
  have h5 : n ||| m < 2 ^ k := Nat.or_lt_two_pow h3 h4
  have h6 : (2 : Nat) ^ k ≤ 2 ^ 31 := Nat.pow_le_pow_right (by decide) hk
  have h9 : ((2 ^ k : Nat) : Int) = (2 : Int) ^ k := by norm_cast
  exact iv_nI (by omega) (by omega)
theorem ti_not (x : Int32) : (x ^^^ (-1)).toInt = - x.toInt - 1 := by
  have h : x ^^^ (-1) = ~~~ x := by
    apply Int32.toBitVec_inj.mp
    show x.toBitVec ^^^ BitVec.allOnes 32 = ~~~ x.toBitVec
    exact BitVec.xor_allOnes
  rw [h, Int32.toInt_not]
  have h1 := (iv_any x).1
  have h2 := (iv_any x).2
  exact bm32 (by omega) (by omega)
theorem iv_not {a b : Int} {x : Int32} (h : iv a b x) : iv (-b - 1) (-a - 1) (x ^^^ (-1)) := by
  rw [iv, ti_not]; have := h.1; have := h.2; omega
theorem iv_in {a b : Int} {x : Int32} {n : Nat} (h : iv a b x) (h1 : 0 ≤ a) (h2 : b < n) : vp_in x n := vp_in_iff.mpr ⟨Int.le_trans h1 h.1, Int.lt_of_le_of_lt h.2 h2⟩
theorem iv_lt {x y : Int32} (h : x < y) : x.toInt < y.toInt := Int32.lt_iff_toInt_lt.mp h
theorem iv_le {x y : Int32} (h : x ≤ y) : x.toInt ≤ y.toInt := Int32.le_iff_toInt_le.mp h
theorem iv_nlt {x y : Int32} (h : ¬ x < y) : y.toInt ≤ x.toInt := by rw [Int32.lt_iff_toInt_lt] at h; omega
theorem iv_nle {x y : Int32} (h : ¬ x ≤ y) : y.toInt < x.toInt := by rw [Int32.le_iff_toInt_le] at h; omega
theorem iv_ne {x y : Int32} (h : ¬ x = y) : x.toInt ≠ y.toInt := fun e => h (Int32.toInt_inj.mp e)
theorem iv_shr {b : Int} {x y : Int32} (hx : iv 0 b x) : iv 0 b (x >>> (y &&& 31)) := by
  obtain ⟨n, e, e2, hn⟩ := nI_iv hx
  rw [e, pk_shrN hn (y &&& 31) _ rfl]
  have h1 := Nat.div_le_self n (2 ^ ((y &&& 31).toBitVec.smod 32).toNat)
  have := hx.2
  exact iv_nI (by omega) (by omega)
theorem sm31 : ∀ m, m < 31 → ((nI m &&& 31).toBitVec.smod 32).toNat = m := by decide +kernel
theorem nI_shl1 {m : Nat} (h : m < 31) : (1 : Int32) <<< (nI m &&& 31) = nI (2 ^ m) := by
  have h1 := pk_shlN (n := 1) (nI m &&& 31) m (sm31 m h) (by rw [Nat.one_mul]; exact Nat.pow_lt_pow_right (by decide) (by omega))
  rw [Nat.one_mul] at h1
  exact h1
theorem iv_shl1 {a b : Nat} {y : Int32} (hy : iv (a : Int) (b : Int) y) (hb : b ≤ 30) : iv ((2 ^ a : Nat) : Int) ((2 ^ b : Nat) : Int) (1 <<< (y &&& 31)) := by
  obtain ⟨n, e, e2, hn⟩ := nI_iv (b := b) (x := y) ⟨by have := hy.1; omega, hy.2⟩
  have g1 := hy.1
  have g2 := hy.2
  have h1 : a ≤ n := by omega
  have h2 : n ≤ b := by omega
  rw [e, nI_shl1 (by omega)]
  have h3 : (2 : Nat) ^ n < 2 ^ 31 := Nat.pow_lt_pow_right (by decide) (by omega)
  have h4 : (2 : Nat) ^ a ≤ 2 ^ n := Nat.pow_le_pow_right (by decide) h1
  have h5 : (2 : Nat) ^ n ≤ 2 ^ b := Nat.pow_le_pow_right (by decide) h2
  exact ⟨by rw [nI_toInt h3]; exact Int.ofNat_le.mpr h4, by rw [nI_toInt h3]; exact Int.ofNat_le.mpr h5⟩
theorem iv_div {b d : Int} {x y : Int32} (hx : iv 0 b x) (hy : iv 1 d y) : iv 0 b (x / y) := by
  obtain ⟨n, e, e2, hn⟩ := nI_iv hx
  obtain ⟨m, f, f2, hm⟩ := nI_iv (b := d) (x := y) ⟨by have := hy.1; omega, hy.2⟩
  have := hy.1
  have := hx.2
  rw [e, f, pk_div hn (by omega) hm]
  have h1 := Nat.div_le_self n m
  exact iv_nI (by omega) (by omega)
/-! The bounds that every state keeps, and what a question leaves as it was. -/
def ac_il (k : Nat) : Int := match k with
  | 0 => 0
  | 1 => 1
  | 2 => 1
  | 4 => 0
  | 5 => 1
  | 6 => 1
  | 7 => 0
  | 8 => 0
  | 11 => 0
  | 12 => 0
  | 13 => 0
  | 14 => 0
  | 15 => 0
  | 16 => 1
  | 17 => 1
  | 18 => 0
  | 20 => 1
  | 21 => 1
  | 22 => 0
  | 23 => 0
  | 25 => 0
  | 26 => 0
  | _ => -2147483648
def ac_ih (k : Nat) : Int := match k with
  | 0 => 10
  | 1 => 6
  | 2 => 2000
  | 4 => 1023
  | 5 => 1000
  | 6 => 100
  | 7 => 1023
  | 8 => 1023
  | 11 => 10
  | 12 => 6
  | 13 => 24
  | 14 => 1
  | 15 => 10
  | 16 => 6
  | 17 => 2000
  | 18 => 10
  | 20 => 1000
  | 21 => 100
  | 22 => 1023
  | 23 => 1023
  | 25 => 6
  | 26 => 24
  | _ => 2147483647
def ac_al (k : Nat) : Int := match k with
  | 9 => 0
  | 10 => 0
  | 22 => 0
  | 25 => -1
  | 33 => 0
  | 46 => -1
  | _ => -2147483648
def ac_ah (k : Nat) : Int := match k with
  | 9 => 2
  | 10 => 9
  | 22 => 63
  | 25 => 23
  | 33 => 9
  | 46 => 23
  | _ => 2147483647
def Inv (σ : SS) : Prop := (∀ k, iv (ac_il k) (ac_ih k) (ac_gi σ k)) ∧ ∀ c j, iv (ac_al c) (ac_ah c) (ac_ga σ c j)
theorem Inv.si {σ : SS} (h : Inv σ) {k : Nat} {v : Int32} (hv : iv (ac_il k) (ac_ih k) v) : Inv (ac_si σ k v) := by
  refine ⟨fun j => ?_, h.2⟩
  rw [ac_gi_si]
  split
  · rename_i e; rw [e]; exact hv
  · exact h.1 j
theorem Inv.sa {σ : SS} (h : Inv σ) {c i : Nat} {v : Int32} (hv : iv (ac_al c) (ac_ah c) v) : Inv (ac_sa σ c (upd (ac_ga σ c) i v)) := by
  refine ⟨h.1, fun d j => ?_⟩
  rw [ac_ga_sa]
  split
  · rename_i e
    rw [e]
    unfold upd
    split
    · exact hv
    · exact h.2 c j
  · exact h.2 d j
theorem Inv.sf {σ : SS} (h : Inv σ) {c : Nat} {f : Nat → Int32} (hv : ∀ j, iv (ac_al c) (ac_ah c) (f j)) : Inv (ac_sa σ c f) := by
  refine ⟨h.1, fun d j => ?_⟩
  rw [ac_ga_sa]
  split
  · rename_i e
    rw [e]
    exact hv j
  · exact h.2 d j
theorem Inv.sl {σ : SS} (h : Inv σ) {v : Int64} : Inv (ac_sl σ v) := ⟨h.1, h.2⟩
def ac_scI (k : Nat) : Bool := k == 7 || k == 8 || k == 9 || k == 10 || k == 11 || k == 14 || k == 18 || k == 19 || k == 22 || k == 23 || k == 24 || k == 27
def ac_scA (c : Nat) : Bool := c == 10 || c == 11 || c == 12 || c == 13 || c == 14 || c == 15 || c == 16 || c == 19 || c == 20 || c == 25 || c == 26 || c == 29 || c == 33 || c == 34 || c == 35 || c == 39 || c == 40 || c == 45 || c == 46 || c == 47 || c == 50
def Keep (σ τ : SS) : Prop := (∀ k, ac_scI k = false → ac_gi τ k = ac_gi σ k) ∧ ∀ c, ac_scA c = false → ac_ga τ c = ac_ga σ c
theorem Keep.rf {σ : SS} : Keep σ σ := ⟨fun _ _ => rfl, fun _ _ => rfl⟩
theorem Keep.tr {σ τ υ : SS} (h : Keep σ τ) (g : Keep τ υ) : Keep σ υ := ⟨fun k e => (g.1 k e).trans (h.1 k e), fun c e => (g.2 c e).trans (h.2 c e)⟩
theorem Keep.si {σ τ : SS} (h : Keep σ τ) {k : Nat} {v : Int32} (hk : ac_scI k = true) : Keep σ (ac_si τ k v) := ⟨fun j e => by
  rw [ac_gi_si, if_neg (fun e2 => by rw [e2, hk] at e; cases e)]; exact h.1 j e, h.2⟩
theorem Keep.sa {σ τ : SS} (h : Keep σ τ) {c : Nat} {f : Nat → Int32} (hk : ac_scA c = true) : Keep σ (ac_sa τ c f) := ⟨h.1, fun d e => by
  rw [ac_ga_sa, if_neg (fun e2 => by rw [e2, hk] at e; cases e)]; exact h.2 d e⟩
theorem Keep.sl {σ τ : SS} (h : Keep σ τ) {v : Int64} : Keep σ (ac_sl τ v) := ⟨h.1, h.2⟩
/-- a question: the bounds hold still, what is told is as it was -/
def Gd (σ τ : SS) : Prop := Inv τ ∧ Keep σ τ
theorem Gd.rf {σ : SS} (h : Inv σ) : Gd σ σ := ⟨h, Keep.rf⟩
theorem Gd.tr {σ τ υ : SS} (h : Gd σ τ) (g : Gd τ υ) : Gd σ υ := ⟨g.1, h.2.tr g.2⟩
theorem Gd.si {σ τ : SS} (h : Gd σ τ) {k : Nat} {v : Int32} (hk : ac_scI k = true) (hv : iv (ac_il k) (ac_ih k) v) : Gd σ (ac_si τ k v) := ⟨h.1.si hv, h.2.si hk⟩
theorem Gd.sa {σ τ : SS} (h : Gd σ τ) {c i : Nat} {v : Int32} (hk : ac_scA c = true) (hv : iv (ac_al c) (ac_ah c) v) : Gd σ (ac_sa τ c (upd (ac_ga τ c) i v)) := ⟨h.1.sa hv, h.2.sa hk⟩
theorem Gd.sl {σ τ : SS} (h : Gd σ τ) {v : Int64} : Gd σ (ac_sl τ v) := ⟨h.1.sl, h.2.sl⟩
theorem mz_up {n : Nat} {hi c : Int} {x y : Int32} (h : (hi - x.toInt).toNat < n + 1) (e : y.toInt = x.toInt + c) (hc : 0 < c) (hy : y.toInt ≤ hi) : (hi - y.toInt).toNat < n := by omega
theorem mz_dn {n : Nat} {lo : Int} {x y : Int32} (h : (x.toInt - lo).toNat < n + 1) (e : y.toInt < x.toInt) (hy : lo ≤ y.toInt) : (y.toInt - lo).toNat < n := by omega
