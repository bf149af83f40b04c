/-! Sentences: the greatest sum of a group on bands, and the first row that reaches it. -/
def mxf (f : Nat → Int) (a : Int) : Nat → Int
  | 0 => a
  | n + 1 => max (mxf f a n) (f n)
theorem mxf_ge {f : Nat → Int} {a : Int} : ∀ n, a ≤ mxf f a n
  | 0 => Int.le_refl _
  | n + 1 => by
    have := mxf_ge (f := f) (a := a) n
    show a ≤ max (mxf f a n) (f n)
    omega
theorem mxf_le {f : Nat → Int} {a M : Int} (ha : a ≤ M) (hf : ∀ s, f s ≤ M) : ∀ n, mxf f a n ≤ M
  | 0 => ha
  | n + 1 => by
    have := mxf_le ha hf n
    have := hf n
    show max (mxf f a n) (f n) ≤ M
    omega
def trm (H B S : Nat → Int32) (W : Nat → Int) (h x s : Nat) : Int := if (H s).toInt = (h : Int) ∧ (B s).toNatClampNeg &&& x = (B s).toNatClampNeg then (S s).toInt + W (x ^^^ (B s).toNatClampNeg) else 0
def Wf (H B S : Nat → Int32) (ns G : Nat) : Nat → Nat → Int
  | 0 => fun _ => 0
  | d + 1 => fun x => if G.testBit (5 - d) = true then mxf (trm H B S (Wf H B S ns G d) (5 - d) x) (Wf H B S ns G d x) ns else Wf H B S ns G d x
theorem trm_bd {H B S : Nat → Int32} {W : Nat → Int} {h x s : Nat} {M : Int} (hS : ∀ s, iv 0 100000 (S s)) (hM : 0 ≤ M) (hW : ∀ x, 0 ≤ W x ∧ W x ≤ M) : 0 ≤ trm H B S W h x s ∧ trm H B S W h x s ≤ M + 100000 := by
  unfold trm
  have h1 := (hS s).1
  have h2 := (hS s).2
  have h3 := hW (x ^^^ (B s).toNatClampNeg)
  split <;> omega
theorem Wf_bd {H B S : Nat → Int32} {ns G : Nat} (hS : ∀ s, iv 0 100000 (S s)) : ∀ d x, 0 ≤ Wf H B S ns G d x ∧ Wf H B S ns G d x ≤ 100000 * (d : Int)
  | 0, _ => ⟨Int.le_refl _, by show (0 : Int) ≤ 100000 * ((0 : Nat) : Int); omega⟩
  | d + 1, x => by
    have ih := Wf_bd (ns := ns) (G := G) (H := H) (B := B) hS d
    show 0 ≤ (if G.testBit (5 - d) = true then mxf (trm H B S (Wf H B S ns G d) (5 - d) x) (Wf H B S ns G d x) ns else Wf H B S ns G d x) ∧ (if G.testBit (5 - d) = true then mxf (trm H B S (Wf H B S ns G d) (5 - d) x) (Wf H B S ns G d x) ns else Wf H B S ns G d x) ≤ 100000 * ((d + 1 : Nat) : Int)
    have h1 := ih x
    split
    · have h2 := mxf_ge (f := trm H B S (Wf H B S ns G d) (5 - d) x) (a := Wf H B S ns G d x) ns
      have h3 := mxf_le (f := trm H B S (Wf H B S ns G d) (5 - d) x) (a := Wf H B S ns G d x) (M := 100000 * (d : Int) + 100000) (by omega) (fun s => (trm_bd hS (by omega) ih).2) ns
      omega
    · omega
/-- only the houses that are looked at count -/
theorem Wf_G {H B S : Nat → Int32} {ns G G' : Nat} : ∀ d, d ≤ 6 → (∀ j, 6 ≤ j + d → j ≤ 5 → G.testBit j = G'.testBit j) → Wf H B S ns G d = Wf H B S ns G' d
  | 0, _, _ => rfl
  | d + 1, hd, h => by
    have ih := Wf_G (H := H) (B := B) (S := S) (ns := ns) d (by omega) (fun j h1 h2 => h j (by omega) h2)
    funext x
    show (if G.testBit (5 - d) = true then mxf (trm H B S (Wf H B S ns G d) (5 - d) x) (Wf H B S ns G d x) ns else Wf H B S ns G d x) = (if G'.testBit (5 - d) = true then mxf (trm H B S (Wf H B S ns G' d) (5 - d) x) (Wf H B S ns G' d x) ns else Wf H B S ns G' d x)
    rw [ih, h (5 - d) (by omega) (by omega)]
theorem Wf_skip {H B S : Nat → Int32} {ns G d : Nat} : ∀ e, d + e ≤ 6 → (∀ j, 6 ≤ j + d + e → j + d < 6 → G.testBit j = false) → Wf H B S ns G (d + e) = Wf H B S ns G d
  | 0, _, _ => rfl
  | e + 1, hd, h => by
    have ih := Wf_skip (H := H) (B := B) (S := S) (ns := ns) e (by omega) (fun j h1 h2 => h j (by omega) h2)
    funext x
    show (if G.testBit (5 - (d + e)) = true then mxf (trm H B S (Wf H B S ns G (d + e)) (5 - (d + e)) x) (Wf H B S ns G (d + e) x) ns else Wf H B S ns G (d + e) x) = Wf H B S ns G d x
    rw [h (5 - (d + e)) (by omega) (by omega), ih]
    rfl
theorem Wf_no {H B S : Nat → Int32} {ns G h : Nat} (hh : h ≤ 5) (hb : G.testBit h = false) : Wf H B S ns G (6 - h) = Wf H B S ns G (5 - h) := by
  have e : 6 - h = (5 - h) + 1 := by omega
  rw [e]
  funext x
  show (if G.testBit (5 - (5 - h)) = true then mxf (trm H B S (Wf H B S ns G (5 - h)) (5 - (5 - h)) x) (Wf H B S ns G (5 - h) x) ns else Wf H B S ns G (5 - h) x) = _
  rw [show 5 - (5 - h) = h from by omega, hb]
  rfl
theorem Wf_yes {H B S : Nat → Int32} {ns G h : Nat} (hh : h ≤ 5) (hb : G.testBit h = true) (x : Nat) : Wf H B S ns G (6 - h) x = mxf (trm H B S (Wf H B S ns G (5 - h)) h x) (Wf H B S ns G (5 - h) x) ns := by
  have e : 6 - h = (5 - h) + 1 := by omega
  rw [e]
  show (if G.testBit (5 - (5 - h)) = true then mxf (trm H B S (Wf H B S ns G (5 - h)) (5 - (5 - h)) x) (Wf H B S ns G (5 - h) x) ns else Wf H B S ns G (5 - h) x) = _
  rw [show 5 - (5 - h) = h from by omega, hb]
  rfl
/-- what is left of a group from a house on -/
theorem Wf_left {H B S : Nat → Int32} {ns G L h : Nat} (hh : h ≤ 6) (hL : ∀ j, L.testBit j = (G.testBit j && decide (h ≤ j))) : Wf H B S ns L 6 = Wf H B S ns G (6 - h) := by
  have h1 := Wf_skip (H := H) (B := B) (S := S) (ns := ns) (G := L) (d := 6 - h) h (by omega) (fun j h1 h2 => by
    rw [hL j, decide_eq_false (by omega), Bool.and_false])
  rw [show 6 - h + h = 6 from by omega] at h1
  rw [h1]
  exact Wf_G _ (by omega) (fun j h1 h2 => by rw [hL j, decide_eq_true (by omega), Bool.and_true])
/-- a group by its first house -/
theorem Wf_low {H B S : Nat → Int32} {ns G R h : Nat} (hh : h ≤ 5) (hb : G.testBit h = true) (hl : ∀ j, j < h → G.testBit j = false) (hR : ∀ j, R.testBit j = (G.testBit j && decide (h < j))) (x : Nat) : Wf H B S ns G 6 x = mxf (trm H B S (Wf H B S ns R 6) h x) (Wf H B S ns R 6 x) ns := by
  have h1 : Wf H B S ns G 6 = Wf H B S ns G (6 - h) := Wf_left (by omega) (fun j => by
    by_cases hj : h ≤ j
    · rw [decide_eq_true hj, Bool.and_true]
    · rw [hl j (by omega)]; rfl)
  have h2 : Wf H B S ns R 6 = Wf H B S ns G (5 - h) := by
    rw [show 5 - h = 6 - (h + 1) from by omega]
    exact Wf_left (by omega) (fun j => by rw [hR j]; rfl)
  rw [h1, h2]
  exact Wf_yes hh hb x
theorem Wf_z {H B S : Nat → Int32} {ns : Nat} : ∀ d x, Wf H B S ns 0 d x = 0
  | 0, _ => rfl
  | d + 1, x => by
    show (if (0 : Nat).testBit (5 - d) = true then mxf (trm H B S (Wf H B S ns 0 d) (5 - d) x) (Wf H B S ns 0 d x) ns else Wf H B S ns 0 d x) = 0
    rw [Nat.zero_testBit, if_neg (by decide)]
    exact Wf_z d x
/-- the first row -/
def mtc (H B S : Nat → Int32) (ns G h x s : Nat) : Prop := (H s).toInt = (h : Int) ∧ (B s).toNatClampNeg &&& x = (B s).toNatClampNeg ∧ (S s).toInt + Wf H B S ns G (5 - h) (x ^^^ (B s).toNatClampNeg) = Wf H B S ns G (6 - h) x
def pkP (H B S : Nat → Int32) (ns G h x : Nat) (c : Int32) : Prop :=
  (c = -1 ∧ (G.testBit h = false ∨ Wf H B S ns G (5 - h) x = Wf H B S ns G (6 - h) x ∨ ∀ s, s < ns → ¬ mtc H B S ns G h x s)) ∨ (∃ s, c = nI s ∧ s < ns ∧ G.testBit h = true ∧ ¬ Wf H B S ns G (5 - h) x = Wf H B S ns G (6 - h) x ∧ mtc H B S ns G h x s ∧ ∀ t, t < s → ¬ mtc H B S ns G h x t)
theorem pk_uniq {H B S : Nat → Int32} {ns G h x : Nat} {c d : Int32} (h1 : pkP H B S ns G h x c) (h2 : pkP H B S ns G h x d) : c = d := by
  rcases h1 with ⟨e1, a1⟩ | ⟨s, e1, l1, b1, n1, m1, f1⟩ <;> rcases h2 with ⟨e2, a2⟩ | ⟨t, e2, l2, b2, n2, m2, f2⟩
  · rw [e1, e2]
  · exfalso
    rcases a1 with a1 | a1 | a1
    · rw [a1] at b2; cases b2
    · exact n2 a1
    · exact a1 t l2 m2
  · exfalso
    rcases a2 with a2 | a2 | a2
    · rw [a2] at b1; cases b1
    · exact n1 a2
    · exact a2 s l1 m1
  · rcases Nat.lt_trichotomy s t with z | z | z
    · exact absurd m1 (f2 s z)
    · rw [e1, e2, z]
    · exact absurd m2 (f1 t z)
theorem pk_iv {H B S : Nat → Int32} {ns G h x : Nat} {c : Int32} (hns : ns ≤ 24) (h1 : pkP H B S ns G h x c) : c = -1 ∨ (∃ s, c = nI s ∧ s < ns ∧ c.toInt = (s : Int) ∧ c.toNatClampNeg = s ∧ (B s).toNatClampNeg &&& x = (B s).toNatClampNeg) := by
  rcases h1 with ⟨e1, a1⟩ | ⟨s, e1, l1, b1, n1, m1, f1⟩
  · exact Or.inl e1
  · exact Or.inr ⟨s, e1, l1, by rw [e1]; exact nI_toInt (by omega), by rw [e1]; exact nI_clamp (by omega), m1.2.1⟩
def nxb (B : Nat → Int32) (y : Nat) (c : Int32) : Nat := if c.toInt < 0 then y else y ^^^ (B c.toNatClampNeg).toNatClampNeg
def BR (H B S : Nat → Int32) (ns G : Nat) : Nat → Nat → Prop
  | 0 => fun x => x = 63
  | h + 1 => fun x => ∃ y c, BR H B S ns G h y ∧ pkP H B S ns G h y c ∧ x = nxb B y c
theorem BR_uniq {H B S : Nat → Int32} {ns G : Nat} : ∀ h x y, BR H B S ns G h x → BR H B S ns G h y → x = y
  | 0, x, y, h1, h2 => by
    have e1 : x = 63 := h1
    have e2 : y = 63 := h2
    rw [e1, e2]
  | h + 1, x, y, h1, h2 => by
    obtain ⟨a, c, b1, p1, e1⟩ := h1
    obtain ⟨b, d, b2, p2, e2⟩ := h2
    have e := BR_uniq h a b b1 b2
    subst e
    have e3 := pk_uniq p1 p2
    subst e3
    rw [e1, e2]
def wn (H B S : Nat → Int32) (ns G h : Nat) (c : Int32) : Prop := ∃ x, BR H B S ns G h x ∧ pkP H B S ns G h x c
theorem wn_uniq {H B S : Nat → Int32} {ns G h : Nat} {c d : Int32} (h1 : wn H B S ns G h c) (h2 : wn H B S ns G h d) : c = d := by
  obtain ⟨x, b1, p1⟩ := h1
  obtain ⟨y, b2, p2⟩ := h2
  have e := BR_uniq h x y b1 b2
  subst e
  exact pk_uniq p1 p2
/-- what a house wins -/
def wv (S : Nat → Int32) (c : Int32) : Int32 := if c.toInt < 0 then 0 else S c.toNatClampNeg
theorem wv_iv {S : Nat → Int32} (hS : ∀ s, iv 0 100000 (S s)) (c : Int32) : iv 0 100000 (wv S c) := by
  unfold wv
  split
  · exact ⟨by decide, by decide⟩
  · exact hS _
/-- what a group of houses has without leaving -/
def kt (w p S : Nat → Int32) (g h : Nat) : Int := if (w h).toInt < 0 then 0 else (p h).toInt + (if g.testBit h = true then max 0 ((wv S (w h)).toInt - (p h).toInt) else 0)
def kp (w p S : Nat → Int32) (g : Nat) : Nat → Int
  | 0 => 0
  | h + 1 => kp w p S g h + kt w p S g h
theorem kt_bd {w p S : Nat → Int32} {g h : Nat} (hp : ∀ j, iv 0 100000 (p j)) (hS : ∀ s, iv 0 100000 (S s)) : 0 ≤ kt w p S g h ∧ kt w p S g h ≤ 200000 := by
  unfold kt
  have h1 := (hp h).1
  have h2 := (hp h).2
  have h3 := (wv_iv hS (w h)).1
  have h4 := (wv_iv hS (w h)).2
  split
  · omega
  · split <;> omega
theorem kp_bd {w p S : Nat → Int32} {g : Nat} (hp : ∀ j, iv 0 100000 (p j)) (hS : ∀ s, iv 0 100000 (S s)) : ∀ n, 0 ≤ kp w p S g n ∧ kp w p S g n ≤ 200000 * (n : Int)
  | 0 => ⟨Int.le_refl _, by show (0 : Int) ≤ 200000 * ((0 : Nat) : Int); omega⟩
  | n + 1 => by
    have ih := kp_bd (w := w) (g := g) hp hS n
    have h1 := kt_bd (w := w) (g := g) (h := n) hp hS
    show 0 ≤ kp w p S g n + kt w p S g n ∧ kp w p S g n + kt w p S g n ≤ 200000 * ((n + 1 : Nat) : Int)
    omega
theorem kp_congr {w w' p S : Nat → Int32} {g : Nat} : ∀ n, (∀ h, h < n → w h = w' h) → kp w p S g n = kp w' p S g n
  | 0, _ => rfl
  | n + 1, h => by
    show kp w p S g n + kt w p S g n = kp w' p S g n + kt w' p S g n
    rw [kp_congr n (fun j hj => h j (by omega))]
    unfold kt
    rw [h n (by omega)]
