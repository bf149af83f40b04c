/-! Who moves, who is where, and when nobody is heard. (after 22.pq: uses tb) -/
def tm_f (b a : Nat → Int32) : Nat → Int32
  | 0 => 0
  | k + 1 => if b k = a k then tm_f b a k else tm_f b a k ||| ((1 : Int32) <<< (nI k &&& 31))
theorem or_z (s : Int32) : s ||| 0 = s := by
  apply Int32.toBitVec_inj.mp
  simp
theorem shl_z (y : Int32) : (0 : Int32) <<< (y &&& 31) = 0 := by
  apply Int32.toBitVec_inj.mp
  simp
theorem tm_e {b a : Nat → Int32} {s k : Int32} (hk : iv 0 9 k) (e : s = tm_f b a k.toNatClampNeg) (c : b k.toNatClampNeg = a k.toNatClampNeg) : s ||| 0 = tm_f b a (k + 1).toNatClampNeg := by
  rw [or_z, iv_n1 hk (by decide) (by decide)]
  show _ = if b k.toNatClampNeg = a k.toNatClampNeg then tm_f b a k.toNatClampNeg else _
  rw [if_pos c, ← e]
theorem tm_z {b a : Nat → Int32} {s k : Int32} (hk : iv 0 9 k) (e : s = tm_f b a k.toNatClampNeg) (c : b k.toNatClampNeg = a k.toNatClampNeg) : s ||| ((0 : Int32) <<< (k &&& 31)) = tm_f b a (k + 1).toNatClampNeg := by
  rw [shl_z]
  exact tm_e hk e c
theorem tm_n {b a : Nat → Int32} {s k : Int32} (hk : iv 0 9 k) (e : s = tm_f b a k.toNatClampNeg) (c : ¬ b k.toNatClampNeg = a k.toNatClampNeg) : s ||| ((1 : Int32) <<< (k &&& 31)) = tm_f b a (k + 1).toNatClampNeg := by
  rw [iv_n1 hk (by decide) (by decide)]
  show _ = if b k.toNatClampNeg = a k.toNatClampNeg then tm_f b a k.toNatClampNeg else tm_f b a k.toNatClampNeg ||| ((1 : Int32) <<< (nI k.toNatClampNeg &&& 31))
  rw [if_neg c, ← iv_nI' hk (by decide), ← e]
theorem tm_x {b a : Nat → Int32} {s k n : Int32} (e : s = tm_f b a k.toNatClampNeg) (h : k.toInt ≤ n.toInt) (h2 : n ≤ k) : s = tm_f b a n.toNatClampNeg := by
  have h3 := iv_le h2
  have h4 : k = n := Int32.toInt_inj.mp (by omega)
  rw [← h4]
  exact e
def ch_f (b a : Nat → Int32) (M : Int32) (j : Nat) : Int32 := if tb M j = true then a j else b j
theorem ch_1 {b a : Nat → Int32} {M k : Int32} (hk : iv 0 9 k) (h : ((M >>> (k &&& 31)) &&& 1) = 1) : a k.toNatClampNeg = ch_f b a M k.toNatClampNeg := by
  unfold ch_f
  rw [if_pos ((tb_bit1 hk (by decide)).mp h)]
theorem ch_0 {b a : Nat → Int32} {M k : Int32} (hk : iv 0 9 k) (h : ¬ ((M >>> (k &&& 31)) &&& 1) = 1) : b k.toNatClampNeg = ch_f b a M k.toNatClampNeg := by
  unfold ch_f
  rw [if_neg (fun z => h ((tb_bit1 hk (by decide)).mpr z))]
theorem ch_has {b a : Nat → Int32} {M k : Int32} (hk : iv 0 9 k) (h : ¬ ((M >>> (k &&& 31)) &&& 1) = 0) : a k.toNatClampNeg = ch_f b a M k.toNatClampNeg := by
  unfold ch_f
  cases ht : tb M k.toNatClampNeg with
  | true => rfl
  | false => exact absurd ((tb_bit0 hk (by decide)).mpr ht) h
theorem ch_not {b a : Nat → Int32} {M k : Int32} (hk : iv 0 9 k) (h : ¬ ¬ ((M >>> (k &&& 31)) &&& 1) = 0) : b k.toNatClampNeg = ch_f b a M k.toNatClampNeg := by
  unfold ch_f
  rw [(tb_bit0 hk (by decide)).mp (Classical.not_not.mp h)]
  rfl
def bk_o (x y : Int32) : Int32 := if y < x then x - y else y - x
def brk (p x y : Int32) : Prop := (0 ≤ x.toInt ∧ 0 ≤ y.toInt) ∧ bk_o x y < p
def qt (pr b a : Nat → Int32) (M : Int32) (n : Nat) : Prop := ∀ i j : Nat, i < n → j < i → ¬ brk (pr (10 * i + j)) (ch_f b a M i) (ch_f b a M j)
/-- the table SHUT says the same -/
def sh_f (p c : Int32) : Int32 := if 0 ≤ c.toInt ∧ c.toInt < 6 then ac_shut (p * 6 + c).toNatClampNeg else 0
theorem shut_dec : ∀ p, p < 3 → ∀ c, c < 7 → ∀ x, x < 6 → ((¬ ((sh_f (nI p) (nI c - 1) >>> (nI x &&& 31)) &&& 1) = 0) ↔ ((0 ≤ (nI x).toInt ∧ 0 ≤ (nI c - 1).toInt) ∧ bk_o (nI x) (nI c - 1) < nI p)) := by decide +kernel
theorem shut_brk {p x c : Int32} (hp : iv 0 2 p) (hx : iv 0 5 x) (hc : iv (-1) 5 c) : (¬ ((sh_f p c >>> (x &&& 31)) &&& 1) = 0) ↔ brk p x c := by
  obtain ⟨a, ea, ea2, ha⟩ := nI_iv hp
  obtain ⟨d, ed, ed2, hd⟩ := nI_iv hx
  have hc1 := iv_add hc (iv_c (c := 1) (x := (1 : Int32)) (by decide)) (by decide) (by decide)
  have hti := ti_add hc (iv_c (c := 1) (x := (1 : Int32)) (by decide)) (by decide) (by decide)
  obtain ⟨e, ee, ee2, he⟩ := nI_iv (b := 6) (x := c + 1) ⟨by have := hc1.1; omega, by have := hc1.2; omega⟩
  have ec : c = nI e - 1 := by
    rw [← ee]
    apply Int32.toBitVec_inj.mp
    simp
  have := hp.2
  have := hx.2
  have := hc1.2
  rw [ea, ed, ec]
  exact shut_dec a (by omega) e (by omega) d (by omega)
theorem ix10 {i k : Int32} (hi : iv 0 9 i) (hk : iv 0 9 k) : (i * 10 + k).toNatClampNeg = 10 * i.toNatClampNeg + k.toNatClampNeg := by
  have h10 : iv 0 10 (10 : Int32) := iv_wk (c := 0) (iv_c (c := 10) (x := (10 : Int32)) (by decide)) (by decide) (Int.le_refl _)
  have h1 := ti_mul hi h10 (by decide)
  have h2 := iv_mul hi h10 (by decide)
  have h3 := ti_add h2 hk (by decide) (by decide)
  have h4 := iv_cl (iv_add h2 hk (by decide) (by decide)) (by decide)
  have h5 := iv_cl hi (by decide)
  have h6 := iv_cl hk (by decide)
  have h7 : (10 : Int32).toInt = 10 := by decide
  rw [h3, h1.1, h7] at h4
  omega
theorem ix10' {i k : Int32} (hi : iv 0 9 i) (hk : iv 0 9 k) : (10 * i + k).toNatClampNeg = 10 * i.toNatClampNeg + k.toNatClampNeg := by
  rw [Int32.mul_comm]
  exact ix10 hi hk
def qi (pr b a : Nat → Int32) (M i c k : Int32) : Prop := c = ch_f b a M i.toNatClampNeg ∧ ∀ j : Nat, j < k.toNatClampNeg → ¬ brk (pr (10 * i.toNatClampNeg + j)) c (ch_f b a M j)
theorem qi_0 {pr b a : Nat → Int32} {M i c : Int32} (h : c = ch_f b a M i.toNatClampNeg) : qi pr b a M i c 0 := ⟨h, fun j hj => by
  have : (0 : Int32).toNatClampNeg = 0 := by decide
  omega⟩
theorem qi_s {pr b a : Nat → Int32} {M i c k : Int32} (hk : iv 0 9 k) (h : qi pr b a M i c k) (hn : ¬ brk (pr (10 * i.toNatClampNeg + k.toNatClampNeg)) c (ch_f b a M k.toNatClampNeg)) : qi pr b a M i c (k + 1) := by
  refine ⟨h.1, fun j hj => ?_⟩
  rw [iv_n1 hk (by decide) (by decide)] at hj
  by_cases e : j = k.toNatClampNeg
  · rw [e]; exact hn
  · exact h.2 j (by omega)
theorem qt_1 {pr b a : Nat → Int32} {M : Int32} : qt pr b a M (1 : Int32).toNatClampNeg := by
  intro i j hi hj
  have : (1 : Int32).toNatClampNeg = 1 := by decide
  omega
theorem qt_s {pr b a : Nat → Int32} {M i c k : Int32} (hi : iv 0 9 i) (h : qt pr b a M i.toNatClampNeg) (q : qi pr b a M i c k) (e : c = -1 ∨ i ≤ k) : qt pr b a M (i + 1).toNatClampNeg := by
  intro x y hx hy
  rw [iv_n1 hi (by decide) (by decide)] at hx
  by_cases ex : x = i.toNatClampNeg
  · rw [ex, ← q.1]
    rcases e with e | e
    · rw [e]
      intro z
      have h1 := z.1.1
      have h2 : (-1 : Int32).toInt = -1 := by decide
      omega
    · have h1 := iv_le e
      have h2 := iv_cl hi (by decide)
      have h3 : (k.toNatClampNeg : Int) = k.toInt := iv_cl (a := 0) (b := 2147483647) ⟨by have := hi.1; omega, (iv_any k).2⟩ (by decide)
      exact q.2 y (by omega)
  · exact h x y (by omega) hy
theorem qt_no {pr b a : Nat → Int32} {M i c k n : Int32} (hi : iv 0 9 i) (hk : iv 0 9 k) (q : qi pr b a M i c k) (hb : brk (pr (10 * i.toNatClampNeg + k.toNatClampNeg)) c (ch_f b a M k.toNatClampNeg)) (h1 : k < i) (h2 : i < n) : ¬ qt pr b a M n.toNatClampNeg := by
  intro h
  have g1 := iv_lt h1
  have g2 := iv_lt h2
  have g3 := iv_cl hi (by decide)
  have g4 := iv_cl hk (by decide)
  have g5 : (n.toNatClampNeg : Int) = n.toInt := iv_cl (a := 0) (b := 2147483647) ⟨by have := hi.1; omega, (iv_any n).2⟩ (by decide)
  exact h i.toNatClampNeg k.toNatClampNeg (by omega) (by omega) (by rw [← q.1]; exact hb)
theorem qt_le {pr b a : Nat → Int32} {M i n : Int32} (hi : iv 0 10 i) (hn : iv 0 10 n) (h : qt pr b a M i.toNatClampNeg) (e : n ≤ i) : qt pr b a M n.toNatClampNeg := by
  have g1 := iv_le e
  have g3 := iv_cl hi (by decide)
  have g4 := iv_cl hn (by decide)
  exact fun x y hx hy => h x y (by omega) hy
/-- the class's test of one bit of SHUT is brk -/
theorem hd_brk {pr b a : Nat → Int32} {M i c k r s : Int32} (hi : iv 0 9 i) (hk : iv 0 9 k) (hc : iv 0 5 c) (hr : iv (-1) 5 r) (hp : ∀ j, iv 0 2 (pr j)) (er : r = ch_f b a M k.toNatClampNeg) (es : s = sh_f (pr (i * 10 + k).toNatClampNeg) r) : (¬ ((s >>> (c &&& 31)) &&& 1) = 0) ↔ brk (pr (10 * i.toNatClampNeg + k.toNatClampNeg)) c (ch_f b a M k.toNatClampNeg) := by
  rw [es, shut_brk (hp _) hc hr, er, ix10 hi hk]
/-- the model's isQuiet -/
def qz (pr b a : Nat → Int32) (M n z k : Int32) : Prop := (z = 1 ∧ qt pr b a M k.toNatClampNeg) ∨ (z = 0 ∧ ¬ qt pr b a M n.toNatClampNeg)
def qy (pr b a : Nat → Int32) (M n z i k : Int32) : Prop := (z = 1 ∧ qt pr b a M i.toNatClampNeg ∧ qi pr b a M i (ch_f b a M i.toNatClampNeg) k) ∨ (z = 0 ∧ ¬ qt pr b a M n.toNatClampNeg)
theorem qz_0 {pr b a : Nat → Int32} {M n : Int32} : qz pr b a M n 1 0 := Or.inl ⟨rfl, fun i j hi hj => by
  have : (0 : Int32).toNatClampNeg = 0 := by decide
  omega⟩
theorem qy_0 {pr b a : Nat → Int32} {M n z i : Int32} (h : qz pr b a M n z i) (hz : ¬ z = 0) : qy pr b a M n z i 0 := by
  rcases h with ⟨h1, h2⟩ | ⟨h1, -⟩
  · exact Or.inl ⟨h1, h2, qi_0 rfl⟩
  · exact absurd h1 hz
theorem qy_1 {pr b a : Nat → Int32} {M n z i k : Int32} (hk : iv 0 9 k) (h : qy pr b a M n z i k) (hz : ¬ z = 0) (hn : ¬ brk (pr (10 * i.toNatClampNeg + k.toNatClampNeg)) (ch_f b a M i.toNatClampNeg) (ch_f b a M k.toNatClampNeg)) : qy pr b a M n 1 i (k + 1) := by
  rcases h with ⟨h1, h2, h3⟩ | ⟨h1, -⟩
  · exact Or.inl ⟨rfl, h2, qi_s hk h3 hn⟩
  · exact absurd h1 hz
theorem qy_b {pr b a : Nat → Int32} {M n z i k : Int32} (hi : iv 0 9 i) (hk : iv 0 9 k) (h : qy pr b a M n z i k) (hz : ¬ z = 0) (hb : brk (pr (10 * i.toNatClampNeg + k.toNatClampNeg)) (ch_f b a M i.toNatClampNeg) (ch_f b a M k.toNatClampNeg)) (h1 : k < i) (h2 : i < n) : qy pr b a M n 0 i (k + 1) := by
  rcases h with ⟨-, -, h3⟩ | ⟨h4, -⟩
  · exact Or.inr ⟨rfl, qt_no hi hk h3 hb h1 h2⟩
  · exact absurd h4 hz
theorem qy_z {pr b a : Nat → Int32} {M n z i k : Int32} (h : qy pr b a M n z i k) (hz : z = 0) : qy pr b a M n 0 i (k + 1) := by
  rcases h with ⟨h1, -, -⟩ | ⟨-, h4⟩
  · exact absurd (h1.symm.trans hz) (by decide)
  · exact Or.inr ⟨rfl, h4⟩
theorem qz_s {pr b a : Nat → Int32} {M n z i k : Int32} (hi : iv 0 9 i) (h : qy pr b a M n z i k) (e : i ≤ k) : qz pr b a M n z (i + 1) := by
  rcases h with ⟨h1, h2, h3⟩ | h4
  · exact Or.inl ⟨h1, qt_s hi h2 h3 (Or.inr e)⟩
  · exact Or.inr h4
theorem qz_x {pr b a : Nat → Int32} {M n z k : Int32} (hk : iv 0 10 k) (hn : iv 0 10 n) (h : qz pr b a M n z k) (e : n ≤ k) : (z = 1 ∧ qt pr b a M n.toNatClampNeg) ∨ (z = 0 ∧ ¬ qt pr b a M n.toNatClampNeg) := by
  rcases h with ⟨h1, h2⟩ | h4
  · exact Or.inl ⟨h1, qt_le hk hn h2 e⟩
  · exact Or.inr h4
theorem qz_x0 {pr b a : Nat → Int32} {M n z k : Int32} (h : qz pr b a M n z k) (e : z = 0) : (z = 1 ∧ qt pr b a M n.toNatClampNeg) ∨ (z = 0 ∧ ¬ qt pr b a M n.toNatClampNeg) := by
  rcases h with ⟨h1, h2⟩ | h4
  · exact absurd (h1.symm.trans e) (by decide)
  · exact Or.inr h4
