/-! The model's packs: the row of channels as a number falls. -/
def pk_nm (d : Nat → Nat) : Nat → Nat
  | 0 => 0
  | j + 1 => pk_nm d j * 8 + d j
theorem pk_nm_eq {d e : Nat → Nat} : ∀ (k : Nat), (∀ j, j < k → e j = d j) → pk_nm e k = pk_nm d k
  | 0, _ => rfl
  | k + 1, h => by
    show pk_nm e k * 8 + e k = pk_nm d k * 8 + d k
    rw [pk_nm_eq k (fun j hj => h j (by omega)), h k (by omega)]
theorem pk_nm_lt {d e : Nat → Nat} {k : Nat} (h1 : ∀ j, j < k → e j = d j) (h2 : e k < d k) (h3 : ∀ j, k < j → e j ≤ 7) : ∀ m, pk_nm e (k + 1 + m) < pk_nm d (k + 1 + m)
  | 0 => by
    show pk_nm e k * 8 + e k < pk_nm d k * 8 + d k
    rw [pk_nm_eq k h1]
    omega
  | m + 1 => by
    have ih := pk_nm_lt h1 h2 h3 m
    have h4 := h3 (k + 1 + m) (by omega)
    show pk_nm e (k + 1 + m) * 8 + e (k + 1 + m) < pk_nm d (k + 1 + m) * 8 + d (k + 1 + m)
    omega
def pk_dg (f : Nat → Int32) (ch rs k : Int) (j : Nat) : Nat := if (j : Int) ≤ k ∧ (j : Int) < rs then (ch - (f j).toInt).toNat else 0
def pk_M (f : Nat → Int32) (ch rs k : Int) : Nat := pk_nm (pk_dg f ch rs k) 10
def pk_E (f : Nat → Int32) (ch rs k : Int) : Prop := ∀ j : Nat, (j : Int) ≤ k → (j : Int) < rs → -1 ≤ (f j).toInt ∧ (f j).toInt < ch
theorem pk_go {f g : Nat → Int32} {ch rs k l : Int} {n : Nat} (hn : (n : Int) = k) (hn9 : n < 10) (hr : k < rs) (hc : 1 ≤ ch ∧ ch ≤ 6) (E : pk_E f ch rs k) (h1 : ∀ j, j < n → g j = f j) (h2 : (g n).toInt = (f n).toInt + 1)
    (h3 : (l = k - 1 ∧ (g n).toInt = ch) ∨ ((g n).toInt < ch ∧ (l = k ∨ (l = k + 1 ∧ (rs ≤ k + 1 ∨ (g (n + 1)).toInt = -1))))) : pk_E g ch rs l ∧ pk_M g ch rs l < pk_M f ch rs k := by
  have En := E n (by omega) (by omega)
  have key : ∀ j, n < j → pk_dg g ch rs l j ≤ 7 := by
    intro j hj
    unfold pk_dg
    split
    · rename_i h
      rcases h3 with ⟨e, -⟩ | ⟨-, e | ⟨e, h4⟩⟩
      · omega
      · omega
      · have hjn : j = n + 1 := by omega
        rcases h4 with h4 | h4
        · omega
        · rw [hjn, h4]
          omega
    · omega
  have low : ∀ j, j < n → pk_dg g ch rs l j = pk_dg f ch rs k j := by
    intro j hj
    unfold pk_dg
    rw [h1 j hj]
    have c1 : ((j : Int) ≤ l ∧ (j : Int) < rs) ↔ ((j : Int) ≤ k ∧ (j : Int) < rs) := by
      rcases h3 with ⟨e, -⟩ | ⟨-, e | ⟨e, -⟩⟩ <;> omega
    simp only [c1]
  have at' : pk_dg g ch rs l n < pk_dg f ch rs k n := by
    unfold pk_dg
    rw [if_pos (show (n : Int) ≤ k ∧ (n : Int) < rs by omega)]
    split
    · rw [h2]
      omega
    · omega
  constructor
  · intro j hj hjr
    rcases Nat.lt_trichotomy j n with hlt | heq | hgt
    · rw [h1 j hlt]
      exact E j (by omega) hjr
    · subst heq
      rcases h3 with ⟨e, -⟩ | ⟨e, -⟩
      · omega
      · omega
    · rcases h3 with ⟨e, -⟩ | ⟨-, e | ⟨e, h4⟩⟩
      · omega
      · omega
      · have hjn : j = n + 1 := by omega
        rcases h4 with h4 | h4
        · omega
        · rw [hjn, h4]
          omega
  · have h5 := pk_nm_lt low at' key (9 - n)
    rw [show n + 1 + (9 - n) = 10 by omega] at h5
    exact h5
theorem pk_up {f : Nat → Int32} {i j : Nat} {x : Int32} (h : j ≠ i) : upd f i x j = f j := if_neg h
theorem pk_us' {f : Nat → Int32} {i : Nat} {x : Int32} : upd f i x i = x := if_pos rfl
theorem pk_step {f : Nat → Int32} {ch rs k l : Int32} {g : Nat → Int32} (hk : iv 0 9 k) (hc : iv 1 6 ch) (hr : k.toInt < rs.toInt) (E : pk_E f ch.toInt rs.toInt k.toInt) (h1 : ∀ j, j < k.toNatClampNeg → g j = f j) (h2 : g k.toNatClampNeg = f k.toNatClampNeg + 1)
    (h3 : (l.toInt = k.toInt - 1 ∧ g k.toNatClampNeg = ch) ∨ (¬ g k.toNatClampNeg = ch ∧ (l.toInt = k.toInt ∨ (l.toInt = k.toInt + 1 ∧ (rs.toInt ≤ k.toInt + 1 ∨ g (k.toNatClampNeg + 1) = -1))))) : pk_E g ch.toInt rs.toInt l.toInt ∧ pk_M g ch.toInt rs.toInt l.toInt < pk_M f ch.toInt rs.toInt k.toInt := by
  have hn := iv_cl hk (by decide)
  have hk2 := hk.2
  have hc1 := hc.1
  have hc2 := hc.2
  have En := E k.toNatClampNeg (by omega) (by omega)
  have h4 : (g k.toNatClampNeg).toInt = (f k.toNatClampNeg).toInt + 1 := by
    rw [h2]
    exact ac_ti1 (a := -1) (b := 5) ⟨En.1, by omega⟩ (iv_c (c := 1) (x := (1 : Int32)) (by decide)) (by decide) (by decide) (by decide)
  refine pk_go hn (by omega) hr ⟨hc1, hc2⟩ E h1 h4 ?_
  rcases h3 with ⟨e, h5⟩ | ⟨h5, h6⟩
  · exact Or.inl ⟨e, by rw [h5]⟩
  · have h7 := iv_ne h5
    refine Or.inr ⟨by omega, ?_⟩
    rcases h6 with e | ⟨e, h8 | h8⟩
    · exact Or.inl e
    · exact Or.inr ⟨e, Or.inl h8⟩
    · exact Or.inr ⟨e, Or.inr (by rw [h8]; decide)⟩
theorem pk_n1 {k : Int32} (hk : iv 0 9 k) : (k + 1).toNatClampNeg = k.toNatClampNeg + 1 ∧ (k + 1).toInt = k.toInt + 1 := by
  have h1 := ac_ti1 hk (iv_c (c := 1) (x := (1 : Int32)) (by decide)) (by decide) (by decide) (by decide)
  have h2 := iv_cl hk (by decide)
  have h3 := iv_cl (a := 0) (b := 10) (x := k + 1) ⟨by have := hk.1; omega, by have := hk.2; omega⟩ (by decide)
  exact ⟨by omega, h1⟩
theorem pkA {f : Nat → Int32} {ch rs k : Int32} (hk : iv 0 9 k) (hc : iv 1 6 ch) (hr : k < rs) (E : pk_E f ch.toInt rs.toInt k.toInt) (h : upd f k.toNatClampNeg (f k.toNatClampNeg + 1) k.toNatClampNeg = ch) : pk_E (upd f k.toNatClampNeg (f k.toNatClampNeg + 1)) ch.toInt rs.toInt (k + (-1)).toInt ∧ pk_M (upd f k.toNatClampNeg (f k.toNatClampNeg + 1)) ch.toInt rs.toInt (k + (-1)).toInt < pk_M f ch.toInt rs.toInt k.toInt :=
  pk_step hk hc (iv_lt hr) E (fun j hj => pk_up (Nat.ne_of_lt hj)) pk_us' (Or.inl ⟨by
    have h1 := ti_add hk (iv_c (c := -1) (x := (-1 : Int32)) (by decide)) (by decide) (by decide)
    rw [h1]
    have : (-1 : Int32).toInt = -1 := by decide
    omega, h⟩)
theorem pkB {f : Nat → Int32} {ch rs k : Int32} (hk : iv 0 9 k) (hc : iv 1 6 ch) (hr : k < rs) (E : pk_E f ch.toInt rs.toInt k.toInt) (h : ¬ upd f k.toNatClampNeg (f k.toNatClampNeg + 1) k.toNatClampNeg = ch) : pk_E (upd f k.toNatClampNeg (f k.toNatClampNeg + 1)) ch.toInt rs.toInt k.toInt ∧ pk_M (upd f k.toNatClampNeg (f k.toNatClampNeg + 1)) ch.toInt rs.toInt k.toInt < pk_M f ch.toInt rs.toInt k.toInt :=
  pk_step hk hc (iv_lt hr) E (fun j hj => pk_up (Nat.ne_of_lt hj)) pk_us' (Or.inr ⟨h, Or.inl rfl⟩)
theorem pkC {f : Nat → Int32} {ch rs k : Int32} (hk : iv 0 9 k) (hc : iv 1 6 ch) (hr : k < rs) (E : pk_E f ch.toInt rs.toInt k.toInt) (h : ¬ upd f k.toNatClampNeg (f k.toNatClampNeg + 1) k.toNatClampNeg = ch) (h2 : rs ≤ k + 1) : pk_E (upd f k.toNatClampNeg (f k.toNatClampNeg + 1)) ch.toInt rs.toInt (k + 1).toInt ∧ pk_M (upd f k.toNatClampNeg (f k.toNatClampNeg + 1)) ch.toInt rs.toInt (k + 1).toInt < pk_M f ch.toInt rs.toInt k.toInt :=
  pk_step hk hc (iv_lt hr) E (fun j hj => pk_up (Nat.ne_of_lt hj)) pk_us' (Or.inr ⟨h, Or.inr ⟨(pk_n1 hk).2, Or.inl (by have := iv_le h2; have := (pk_n1 hk).2; omega)⟩⟩)
theorem pkD {f : Nat → Int32} {ch rs k : Int32} (hk : iv 0 9 k) (hc : iv 1 6 ch) (hr : k < rs) (E : pk_E f ch.toInt rs.toInt k.toInt) (h : ¬ upd f k.toNatClampNeg (f k.toNatClampNeg + 1) k.toNatClampNeg = ch) : pk_E (upd (upd f k.toNatClampNeg (f k.toNatClampNeg + 1)) (k + 1).toNatClampNeg (-1)) ch.toInt rs.toInt (k + 1).toInt ∧ pk_M (upd (upd f k.toNatClampNeg (f k.toNatClampNeg + 1)) (k + 1).toNatClampNeg (-1)) ch.toInt rs.toInt (k + 1).toInt < pk_M f ch.toInt rs.toInt k.toInt := by
  have e := (pk_n1 hk).1
  have h9 : upd (upd f k.toNatClampNeg (f k.toNatClampNeg + 1)) (k + 1).toNatClampNeg (-1) k.toNatClampNeg = upd f k.toNatClampNeg (f k.toNatClampNeg + 1) k.toNatClampNeg := pk_up (by omega)
  exact pk_step hk hc (iv_lt hr) E (fun j hj => (pk_up (by omega)).trans (pk_up (Nat.ne_of_lt hj))) (h9.trans pk_us') (Or.inr ⟨by rw [h9]; exact h, Or.inr ⟨(pk_n1 hk).2, Or.inr (by rw [← e]; exact pk_us')⟩⟩)
theorem pk_in1 {f : Nat → Int32} {ch rs : Int32} (hc : iv 1 6 ch) : pk_E (upd f (0 : Int32).toNatClampNeg (-1)) ch.toInt rs.toInt (0 : Int32).toInt := by
  intro j hj hr
  have h0 : (0 : Int32).toInt = 0 := by decide
  have hj0 : j = (0 : Int32).toNatClampNeg := by
    rw [h0] at hj
    have : (0 : Int32).toNatClampNeg = 0 := by decide
    omega
  rw [hj0, pk_us']
  have h1 : (-1 : Int32).toInt = -1 := by decide
  have := hc.1
  omega
theorem pk_in0 {f : Nat → Int32} {ch rs : Int32} (h : rs ≤ 0) : pk_E f ch.toInt rs.toInt (0 : Int32).toInt := by
  intro j hj hr
  have h1 := iv_le h
  have h0 : (0 : Int32).toInt = 0 := by decide
  omega
