/-! What some questions answer, as functions. -/
def ac_bc (x : Int32) : Int32 :=
  let a := x - (ac_ushr x 1 &&& 1431655765)
  let b := (a &&& 858993459) + (ac_ushr a 2 &&& 858993459)
  let c := (b + ac_ushr b 4) &&& 252645135
  let d := c + ac_ushr c 8
  let e := d + ac_ushr d 16
  e &&& 63
def on_f (x : Int32) : Nat → Int32
  | 0 => 0
  | k + 1 => on_f x k + ((x >>> (nI k &&& 31)) &&& 1)
def cf_f (h : Nat → Int32) (l g : Int32) : Nat → Int32
  | 0 => 0
  | k + 1 => if (h k &&& l) = g then cf_f h l g k ||| ((1 : Int32) <<< (nI k &&& 31)) else cf_f h l g k
theorem iv_nI' {a b : Int} {k : Int32} (hk : iv a b k) (h0 : 0 ≤ a) : k = nI k.toNatClampNeg := by
  obtain ⟨n, e, e2, hn⟩ := nI_iv (b := b) (x := k) ⟨Int.le_trans h0 hk.1, hk.2⟩
  have : k.toNatClampNeg = n := by rw [e]; exact nI_clamp hn
  rw [this]
  exact e
theorem iv_n1 {a b : Int} {k : Int32} (hk : iv a b k) (h0 : 0 ≤ a) (hb : b < 2147483647) : (k + 1).toNatClampNeg = k.toNatClampNeg + 1 := by
  have h1 := ac_ti1 hk (iv_c (c := 1) (x := (1 : Int32)) (by decide)) (by omega) (by omega) (by decide)
  have h2 := iv_cl hk h0
  have h3 := iv_cl (a := 0) (b := b + 1) (x := k + 1) ⟨by have := hk.1; omega, by have := hk.2; omega⟩ (by decide)
  omega
theorem iv_16 {k : Int32} (hk : iv 16 16 k) : k.toNatClampNeg = 16 := by
  have h := iv_cl hk (by decide)
  have := hk.1
  have := hk.2
  omega
theorem on_step {x n k : Int32} (hk : iv 0 15 k) (h : n = on_f x k.toNatClampNeg) : n + ((x >>> (k &&& 31)) &&& 1) = on_f x (k + 1).toNatClampNeg := by
  rw [iv_n1 hk (by decide) (by decide)]
  show _ = on_f x k.toNatClampNeg + ((x >>> (nI k.toNatClampNeg &&& 31)) &&& 1)
  rw [← iv_nI' hk (by decide), ← h]
theorem cf_y {h : Nat → Int32} {l g s k : Int32} (hk : iv 0 15 k) (e : s = cf_f h l g k.toNatClampNeg) (c : (h k.toNatClampNeg &&& l) = g) : s ||| ((1 : Int32) <<< (k &&& 31)) = cf_f h l g (k + 1).toNatClampNeg := by
  rw [iv_n1 hk (by decide) (by decide)]
  show _ = if (h k.toNatClampNeg &&& l) = g then cf_f h l g k.toNatClampNeg ||| ((1 : Int32) <<< (nI k.toNatClampNeg &&& 31)) else cf_f h l g k.toNatClampNeg
  rw [if_pos c, ← iv_nI' hk (by decide), ← e]
theorem cf_n {h : Nat → Int32} {l g s k : Int32} (hk : iv 0 15 k) (e : s = cf_f h l g k.toNatClampNeg) (c : ¬ (h k.toNatClampNeg &&& l) = g) : s = cf_f h l g (k + 1).toNatClampNeg := by
  rw [iv_n1 hk (by decide) (by decide)]
  show _ = if (h k.toNatClampNeg &&& l) = g then cf_f h l g k.toNatClampNeg ||| ((1 : Int32) <<< (nI k.toNatClampNeg &&& 31)) else cf_f h l g k.toNatClampNeg
  rw [if_neg c, ← e]
theorem cf_z {h : Nat → Int32} {l g s k : Int32} (hk : iv 0 15 k) (e : s = cf_f h l g k.toNatClampNeg) (c : ¬ (h k.toNatClampNeg &&& l) = g) : s ||| 0 = cf_f h l g (k + 1).toNatClampNeg := by
  have h1 : s ||| 0 = s := by
    apply Int32.toBitVec_inj.mp
    simp
  rw [h1]
  exact cf_n hk e c
theorem bc_on : ∀ n, n < 1024 → ac_bc (nI n) = on_f (nI n) 16 := by decide +kernel
abbrev cnt_p (x r a b c d : Int32) : Prop := (x = 0 ∧ r = a) ∨ (x = 1 ∧ r = b) ∨ (x = 2 ∧ r = c) ∨ (x = 3 ∧ r = d) ∨ ((¬ x = 0 ∧ ¬ x = 1 ∧ ¬ x = 2 ∧ ¬ x = 3) ∧ r = -2)
