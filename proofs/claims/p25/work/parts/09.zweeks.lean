/-! Weeks: submasks, the least over them, tables. -/
theorem sub_le : ∀ (t s l : Nat), s &&& l = s → t &&& l = t → s < t → s ≤ (t - 1) &&& l := by
  intro t
  induction t using Nat.strongRecOn with
  | ind t ih =>
    intro s l hs ht hlt
    have hs2 : s / 2 &&& l / 2 = s / 2 := by rw [← Nat.and_div_two, hs]
    have ht2 : t / 2 &&& l / 2 = t / 2 := by rw [← Nat.and_div_two, ht]
    have ha2 : ((t - 1) &&& l) / 2 = (t - 1) / 2 &&& l / 2 := Nat.and_div_two
    have hsp : s % 2 = 1 → l % 2 = 1 := fun h => by
      have h1 : (s &&& l) % 2 = 1 := by rw [hs]; exact h
      exact (Nat.and_mod_two_eq_one.mp h1).2
    have hap : (t - 1) % 2 = 1 → l % 2 = 1 → ((t - 1) &&& l) % 2 = 1 := fun h1 h2 => Nat.and_mod_two_eq_one.mpr ⟨h1, h2⟩
    by_cases hodd : t % 2 = 1
    · have e1 : (t - 1) / 2 = t / 2 := by omega
      rw [e1, ht2] at ha2
      omega
    · have e1 : (t - 1) / 2 = t / 2 - 1 := by omega
      have e2 : (t - 1) % 2 = 1 := by omega
      have h3 := ih (t / 2) (by omega) (s / 2) (l / 2) hs2 ht2 (by omega)
      rw [e1] at ha2
      rw [← ha2] at h3
      by_cases hs1 : s % 2 = 1
      · have h4 := hap e2 (hsp hs1)
        omega
      · omega
def cnd (k : Int) (l s : Nat) : Prop := 0 < s ∧ s &&& l = s ∧ (on_f (nI s) 16).toInt ≤ k
def mnC (T : Nat → Int32) (m l : Nat) (k v : Int) (lo : Nat) : Prop := v ≤ 1000 ∧ (∀ s, cnd k l s → lo < s → v ≤ (T (m ||| s)).toInt + 1) ∧ (v = 1000 ∨ ∃ s, cnd k l s ∧ lo < s ∧ v = (T (m ||| s)).toInt + 1)
theorem mnC_0 {T : Nat → Int32} {m l : Nat} {k : Int} : mnC T m l k 1000 l := by
  refine ⟨Int.le_refl _, fun s hs hl => ?_, Or.inl rfl⟩
  have h1 : s &&& l ≤ l := Nat.and_le_right
  rw [hs.2.1] at h1
  omega
theorem mnC_hit {T : Nat → Int32} {m l n : Nat} {k v : Int} (h : mnC T m l k v n) (hn : 0 < n) (hs : n &&& l = n) (hp : (on_f (nI n) 16).toInt ≤ k) : mnC T m l k (min v ((T (m ||| n)).toInt + 1)) ((n - 1) &&& l) := by
  have hlt : (n - 1) &&& l < n := by
    have h1 : (n - 1) &&& l ≤ n - 1 := Nat.and_le_left
    omega
  obtain ⟨h1, h2, h3⟩ := h
  refine ⟨by omega, fun s hc hl => ?_, ?_⟩
  · by_cases e : s = n
    · rw [e]; omega
    · by_cases e2 : s < n
      · have := sub_le n s l hc.2.1 hs e2
        omega
      · have := h2 s hc (by omega)
        omega
  · by_cases hv : v ≤ (T (m ||| n)).toInt + 1
    · rcases h3 with e | ⟨s, hc, hl, e⟩
      · exact Or.inl (by omega)
      · exact Or.inr ⟨s, hc, by omega, by omega⟩
    · exact Or.inr ⟨n, ⟨hn, hs, hp⟩, hlt, by omega⟩
theorem mnC_miss {T : Nat → Int32} {m l n : Nat} {k v : Int} (h : mnC T m l k v n) (hn : 0 < n) (hs : n &&& l = n) (hp : ¬ (on_f (nI n) 16).toInt ≤ k) : mnC T m l k v ((n - 1) &&& l) := by
  have hlt : (n - 1) &&& l < n := by
    have h1 : (n - 1) &&& l ≤ n - 1 := Nat.and_le_left
    omega
  obtain ⟨h1, h2, h3⟩ := h
  refine ⟨h1, fun s hc hl => ?_, ?_⟩
  · by_cases e : s = n
    · rw [e] at hc; exact absurd hc.2.2 hp
    · by_cases e2 : s < n
      · have := sub_le n s l hc.2.1 hs e2
        omega
      · exact h2 s hc (by omega)
  · rcases h3 with e | ⟨s, hc, hl, e⟩
    · exact Or.inl e
    · exact Or.inr ⟨s, hc, by omega, e⟩
theorem mnC_uniq {T U : Nat → Int32} {m l : Nat} {k v w : Int} (h : mnC T m l k v 0) (g : mnC U m l k w 0) (e : ∀ s, cnd k l s → (T (m ||| s)).toInt = (U (m ||| s)).toInt) : v = w := by
  obtain ⟨h1, h2, h3⟩ := h
  obtain ⟨g1, g2, g3⟩ := g
  have a : w ≤ v := by
    rcases h3 with z | ⟨s, hc, hl, z⟩
    · omega
    · have := g2 s hc hl
      have := e s hc
      omega
  have b : v ≤ w := by
    rcases g3 with z | ⟨s, hc, hl, z⟩
    · omega
    · have := h2 s hc hl
      have := e s hc
      omega
  omega
/-- one entry of a table, Q says which sets are quiet -/
def ent (Q : Nat → Prop) (T : Nat → Int32) (al : Nat) (k : Int) (m : Nat) : Prop := (Q m ∧ ((m = al ∧ (T m).toInt = 0) ∨ (m ≠ al ∧ mnC T m (al ^^^ m) k (T m).toInt 0))) ∨ (¬ Q m ∧ (T m).toInt = 1000)
theorem or_gt {m s al : Nat} (h : 0 < s) (hs : s &&& (al ^^^ m) = s) (hm : m &&& al = m) : m < m ||| s ∧ (m ||| s) &&& al = m ||| s := by
  have key : ∀ j, s.testBit j = true → al.testBit j = true ∧ m.testBit j = false := by
    intro j hj
    have h1 : (s &&& (al ^^^ m)).testBit j = true := by rw [hs]; exact hj
    rw [Nat.testBit_and, Nat.testBit_xor, Bool.and_eq_true] at h1
    have h2 := h1.2
    cases hmj : m.testBit j with
    | false => rw [hmj] at h2; simp at h2; exact ⟨h2, rfl⟩
    | true =>
      have h3 : (m &&& al).testBit j = true := by rw [hm]; exact hmj
      rw [Nat.testBit_and, Bool.and_eq_true] at h3
      rw [hmj, h3.2] at h2
      simp at h2
  refine ⟨?_, ?_⟩
  · have hle : m ≤ m ||| s := Nat.left_le_or
    refine Nat.lt_of_le_of_ne hle (fun e => ?_)
    have : s = 0 := by
      apply Nat.eq_of_testBit_eq
      intro j
      rw [Nat.zero_testBit]
      cases hj : s.testBit j with
      | false => rfl
      | true =>
        have h4 := (key j hj).2
        rw [e, Nat.testBit_or, hj, Bool.or_true] at h4
        cases h4
    omega
  · apply Nat.eq_of_testBit_eq
    intro j
    rw [Nat.testBit_and, Nat.testBit_or]
    cases hmj : m.testBit j with
    | true =>
      have h3 : (m &&& al).testBit j = true := by rw [hm]; exact hmj
      rw [Nat.testBit_and, Bool.and_eq_true] at h3
      rw [h3.2]; rfl
    | false =>
      cases hj : s.testBit j with
      | true => rw [(key j hj).1]; rfl
      | false => rfl
theorem tab_uniq {Q : Nat → Prop} {T U : Nat → Int32} {al : Nat} {k : Int} (h : ∀ m, m &&& al = m → ent Q T al k m) (g : ∀ m, m &&& al = m → ent Q U al k m) : ∀ (d m : Nat), al - m ≤ d → m &&& al = m → (T m).toInt = (U m).toInt := by
  intro d
  induction d with
  | zero =>
    intro m hd hm
    have hle : m &&& al ≤ al := Nat.and_le_right
    rw [hm] at hle
    have e : m = al := by omega
    rcases h m hm with ⟨q, ⟨-, e1⟩ | ⟨ne, -⟩⟩ | ⟨q, e1⟩ <;> rcases g m hm with ⟨q2, ⟨-, e2⟩ | ⟨ne2, -⟩⟩ | ⟨q2, e2⟩ <;> first | omega | exact absurd e ‹m ≠ al› | exact absurd q q2 | exact absurd q2 q
  | succ d ih =>
    intro m hd hm
    have hle : m &&& al ≤ al := Nat.and_le_right
    rw [hm] at hle
    have up : ∀ s, cnd k (al ^^^ m) s → (T (m ||| s)).toInt = (U (m ||| s)).toInt := by
      intro s hc
      have h1 := or_gt hc.1 hc.2.1 hm
      exact ih (m ||| s) (by omega) h1.2
    rcases h m hm with ⟨q, ⟨e, e1⟩ | ⟨ne, e1⟩⟩ | ⟨q, e1⟩ <;> rcases g m hm with ⟨q2, ⟨f, e2⟩ | ⟨ne2, e2⟩⟩ | ⟨q2, e2⟩ <;> first | omega | exact absurd e ne2 | exact absurd f ne | exact absurd q q2 | exact absurd q2 q | exact mnC_uniq e1 e2 up
/-- the first step that goes on a shortest way -/
def hit (T : Nat → Int32) (m s : Nat) : Prop := (T (m ||| s)).toInt + 1 = (T m).toInt
def fsC (T : Nat → Int32) (m l : Nat) (k : Int) (r : Nat) : Prop := (r = 0 ∧ ∀ s, cnd k l s → ¬ hit T m s) ∨ (cnd k l r ∧ hit T m r ∧ ∀ s, cnd k l s → s < r → ¬ hit T m s)
theorem fs_uniq {T U : Nat → Int32} {m l r q : Nat} {k : Int} (h : fsC T m l k r) (g : fsC U m l k q) (e : ∀ s, cnd k l s → (hit T m s ↔ hit U m s)) : r = q := by
  rcases h with ⟨h1, h2⟩ | ⟨h1, h2, h3⟩ <;> rcases g with ⟨g1, g2⟩ | ⟨g1, g2, g3⟩
  · omega
  · exact absurd ((e q g1).mpr g2) (h2 q g1)
  · exact absurd ((e r h1).mp h2) (g2 r h1)
  · rcases Nat.lt_trichotomy r q with z | z | z
    · exact absurd ((e r h1).mp h2) (g3 r h1 z)
    · exact z
    · exact absurd ((e q g1).mpr g2) (h3 q g1 z)
def nxC (T : Nat → Int32) (m l : Nat) (k : Int) (r lo : Nat) : Prop := (r = 0 ∧ ∀ s, cnd k l s → lo < s → ¬ hit T m s) ∨ (cnd k l r ∧ lo < r ∧ hit T m r ∧ ∀ s, cnd k l s → lo < s → s < r → ¬ hit T m s)
theorem nx_0 {T : Nat → Int32} {m l : Nat} {k : Int} : nxC T m l k 0 l := by
  refine Or.inl ⟨rfl, fun s hs hl => ?_⟩
  have h1 : s &&& l ≤ l := Nat.and_le_right
  rw [hs.2.1] at h1
  omega
theorem nx_hit {T : Nat → Int32} {m l n r : Nat} {k : Int} (hn : 0 < n) (hs : n &&& l = n) (hp : (on_f (nI n) 16).toInt ≤ k) (ht : hit T m n) : nxC T m l k n ((n - 1) &&& l) := by
  have hlt : (n - 1) &&& l < n := by
    have h1 : (n - 1) &&& l ≤ n - 1 := Nat.and_le_left
    omega
  refine Or.inr ⟨⟨hn, hs, hp⟩, hlt, ht, fun s hc hl hsn => ?_⟩
  have := sub_le n s l hc.2.1 hs hsn
  omega
theorem nx_miss {T : Nat → Int32} {m l n r : Nat} {k : Int} (h : nxC T m l k r n) (hn : 0 < n) (hs : n &&& l = n) (hp : ¬ ((on_f (nI n) 16).toInt ≤ k ∧ hit T m n)) : nxC T m l k r ((n - 1) &&& l) := by
  have hlt : (n - 1) &&& l < n := by
    have h1 : (n - 1) &&& l ≤ n - 1 := Nat.and_le_left
    omega
  have key : ∀ s, cnd k l s → (n - 1) &&& l < s → ¬ n < s → ¬ hit T m s := by
    intro s hc hl hns
    by_cases e : s = n
    · rw [e] at hc ⊢
      exact fun z => hp ⟨hc.2.2, z⟩
    · have := sub_le n s l hc.2.1 hs (by omega)
      omega
  rcases h with ⟨h1, h2⟩ | ⟨h1, h2, h3, h4⟩
  · refine Or.inl ⟨h1, fun s hc hl => ?_⟩
    by_cases e : n < s
    · exact h2 s hc e
    · exact key s hc hl e
  · refine Or.inr ⟨h1, by omega, h3, fun s hc hl hsr => ?_⟩
    by_cases e : n < s
    · exact h4 s hc e hsr
    · exact key s hc hl e
theorem nx_end {T : Nat → Int32} {m l r : Nat} {k : Int} (h : nxC T m l k r 0) : fsC T m l k r := by
  rcases h with ⟨h1, h2⟩ | ⟨h1, h2, h3, h4⟩
  · exact Or.inl ⟨h1, fun s hc => h2 s hc hc.1⟩
  · exact Or.inr ⟨h1, h3, fun s hc hsr => h4 s hc hc.1 hsr⟩
/-- on a right table the way goes on, and ends at al -/
theorem tab_go {Q : Nat → Prop} {T : Nat → Int32} {al m r : Nat} {k : Int} (h : ent Q T al k m) (hm : m &&& al = m) (hlt : (T m).toInt < 1000) (hne : m ≠ al) (hf : fsC T m (al ^^^ m) k r) : 0 < r ∧ (T (m ||| r)).toInt + 1 = (T m).toInt ∧ m < m ||| r ∧ (m ||| r) &&& al = m ||| r := by
  rcases h with ⟨q, ⟨e, -⟩ | ⟨-, h1, h2, h3⟩⟩ | ⟨-, e⟩
  · exact absurd e hne
  · rcases hf with ⟨-, f2⟩ | ⟨f1, f2, -⟩
    · rcases h3 with e | ⟨s, hc, -, e⟩
      · omega
      · exact absurd (show hit T m s from by unfold hit; omega) (f2 s hc)
    · have h5 := or_gt f1.1 f1.2.1 hm
      exact ⟨f1.1, f2, h5.1, h5.2⟩
  · omega
theorem tab_zero {Q : Nat → Prop} {T : Nat → Int32} {al m : Nat} {k : Int} (h : ent Q T al k m) (h0 : ∀ j, 0 ≤ (T j).toInt) (hz : (T m).toInt = 0) : m = al := by
  rcases h with ⟨q, ⟨e, -⟩ | ⟨-, h1, h2, h3⟩⟩ | ⟨-, e⟩
  · exact e
  · rcases h3 with e | ⟨s, hc, -, e⟩
    · omega
    · have := h0 (m ||| s)
      omega
  · omega
def RS (T : Nat → Int32) (al : Nat) (k : Int) : Nat → Nat → Prop
  | 0, m => m = 0
  | i + 1, m => ∃ a s, RS T al k i a ∧ fsC T a (al ^^^ a) k s ∧ m = a ||| s
theorem RS_inv {Q : Nat → Prop} {T : Nat → Int32} {al : Nat} {k : Int} (h : ∀ m, m &&& al = m → ent Q T al k m) (h0 : ∀ j, 0 ≤ (T j).toInt) (hT : (T 0).toInt < 1000) : ∀ (i m : Nat), (i : Int) ≤ (T 0).toInt → RS T al k i m → m &&& al = m ∧ (T m).toInt = (T 0).toInt - i := by
  intro i
  induction i with
  | zero =>
    intro m _ hr
    have e : m = 0 := hr
    subst e
    exact ⟨Nat.zero_and _, by omega⟩
  | succ i ih =>
    intro m hi hr
    obtain ⟨a, s, hr, hf, e⟩ := hr
    obtain ⟨h1, h2⟩ := ih a (by omega) hr
    have hne : a ≠ al := by
      intro z
      have h3 := h a h1
      rcases h3 with ⟨q, ⟨-, e1⟩ | ⟨ne, -⟩⟩ | ⟨-, e1⟩
      · omega
      · exact ne z
      · omega
    obtain ⟨g1, g2, g3, g4⟩ := tab_go (h a h1) h1 (by omega) hne hf
    rw [e]
    exact ⟨g4, by omega⟩
/-- how many of the bits 0 .. n less 1 -/
def cn (m : Nat) : Nat → Nat
  | 0 => 0
  | j + 1 => cn m j + (if m.testBit j = true then 1 else 0)
theorem cn_le (m : Nat) : ∀ n, cn m n ≤ n
  | 0 => Nat.le_refl _
  | n + 1 => by
    have := cn_le m n
    show cn m n + (if m.testBit n = true then 1 else 0) ≤ n + 1
    split <;> omega
theorem cn_mono {a b : Nat} (h : ∀ j, a.testBit j = true → b.testBit j = true) : ∀ n, cn a n ≤ cn b n
  | 0 => Nat.le_refl _
  | n + 1 => by
    have ih := cn_mono h n
    have := h n
    show cn a n + (if a.testBit n = true then 1 else 0) ≤ cn b n + (if b.testBit n = true then 1 else 0)
    cases ha : a.testBit n with
    | false => simp; omega
    | true => rw [this ha]; simp; omega
theorem cn_lt {a b i : Nat} (h : ∀ j, a.testBit j = true → b.testBit j = true) (ha : a.testBit i = false) (hb : b.testBit i = true) : ∀ n, i < n → cn a n < cn b n
  | 0, hi => absurd hi (Nat.not_lt_zero _)
  | n + 1, hi => by
    show cn a n + (if a.testBit n = true then 1 else 0) < cn b n + (if b.testBit n = true then 1 else 0)
    by_cases e : i = n
    · subst e
      have := cn_mono h i
      rw [ha, hb]
      simp
      omega
    · have ih := cn_lt h ha hb n (by omega)
      have := h n
      cases hc : a.testBit n with
      | false => simp; omega
      | true => rw [this hc]; simp; omega
theorem cn_all {m n : Nat} (h : cn m n = n) : ∀ j, j < n → m.testBit j = true := by
  induction n with
  | zero => intro j hj; omega
  | succ n ih =>
    intro j hj
    have h1 := cn_le m n
    have h2 : cn m n + (if m.testBit n = true then 1 else 0) = n + 1 := h
    split at h2
    · rename_i hb
      by_cases e : j = n
      · rw [e]; exact hb
      · exact ih (by omega) j (by omega)
    · omega
theorem or_cn {m s al : Nat} (h : 0 < s) (hs : s &&& (al ^^^ m) = s) (hm : m &&& al = m) (hal : al < 1024) : cn m 10 < cn (m ||| s) 10 := by
  have hsub : ∀ j, m.testBit j = true → (m ||| s).testBit j = true := fun j hj => by rw [Nat.testBit_or, hj]; rfl
  obtain ⟨i, hi⟩ : ∃ i, s.testBit i = true := by
    refine Classical.byContradiction (fun z => ?_)
    have : s = 0 := Nat.eq_of_testBit_eq (fun j => by
      rw [Nat.zero_testBit]
      cases hj : s.testBit j with
      | false => rfl
      | true => exact absurd ⟨j, hj⟩ z)
    omega
  have h1 : (s &&& (al ^^^ m)).testBit i = true := by rw [hs]; exact hi
  rw [Nat.testBit_and, Nat.testBit_xor, Bool.and_eq_true] at h1
  have hmi : m.testBit i = false ∧ al.testBit i = true := by
    have h2 := h1.2
    cases hmj : m.testBit i with
    | false => rw [hmj] at h2; simp at h2; exact ⟨rfl, h2⟩
    | true =>
      have h3 : (m &&& al).testBit i = true := by rw [hm]; exact hmj
      rw [Nat.testBit_and, Bool.and_eq_true] at h3
      rw [hmj, h3.2] at h2
      simp at h2
  have hi10 : i < 10 := by
    refine Classical.byContradiction (fun z => ?_)
    have : al.testBit i = false := Nat.testBit_lt_two_pow (Nat.lt_of_lt_of_le (show al < 2 ^ 10 from hal) (Nat.pow_le_pow_right (by decide) (by omega)))
    rw [hmi.2] at this
    cases this
  exact cn_lt hsub hmi.1 (by rw [Nat.testBit_or, hi, Bool.or_true]) 10 hi10
theorem RS_cn {Q : Nat → Prop} {T : Nat → Int32} {al : Nat} {k : Int} (hal : al < 1024) (h : ∀ m, m &&& al = m → ent Q T al k m) (h0 : ∀ j, 0 ≤ (T j).toInt) (hT : (T 0).toInt < 1000) : ∀ (i m : Nat), (i : Int) ≤ (T 0).toInt → RS T al k i m → i ≤ cn m 10 := by
  intro i
  induction i with
  | zero => intro m _ _; exact Nat.zero_le _
  | succ i ih =>
    intro m hi hr
    obtain ⟨a, s, hr, hf, e⟩ := hr
    have h3 := ih a (by omega) hr
    obtain ⟨h1, h2⟩ := RS_inv h h0 hT i a (by omega) hr
    have hne : a ≠ al := by
      intro z
      rcases h a h1 with ⟨q, ⟨-, e1⟩ | ⟨ne, -⟩⟩ | ⟨-, e1⟩
      · omega
      · exact ne z
      · omega
    obtain ⟨g1, g2, g3, g4⟩ := tab_go (h a h1) h1 (by omega) hne hf
    have hs : s &&& (al ^^^ a) = s := by
      rcases hf with ⟨z, -⟩ | ⟨f1, -, -⟩
      · omega
      · exact f1.2.1
    have := or_cn g1 hs h1 hal
    rw [e]
    omega
/-- so there are at most ten weeks -/
theorem RS_ten {Q : Nat → Prop} {T : Nat → Int32} {al m : Nat} {k : Int} (hal : al < 1024) (h : ∀ m, m &&& al = m → ent Q T al k m) (h0 : ∀ j, 0 ≤ (T j).toInt) (hT : (T 0).toInt < 1000) (hr : RS T al k 10 m) : (T 0).toInt ≤ 10 := by
  refine Classical.byContradiction (fun z => ?_)
  have h1 := RS_cn hal h h0 hT 10 m (by omega) hr
  obtain ⟨h2, h3⟩ := RS_inv h h0 hT 10 m (by omega) hr
  have h4 := cn_le m 10
  have h5 := cn_all (m := m) (n := 10) (by omega)
  have e : m = al := by
    apply Nat.eq_of_testBit_eq
    intro j
    by_cases hj : j < 10
    · have h6 : (m &&& al).testBit j = true := by rw [h2]; exact h5 j hj
      rw [Nat.testBit_and, Bool.and_eq_true] at h6
      rw [h6.1, h6.2]
    · have h7 : al.testBit j = false := Nat.testBit_lt_two_pow (Nat.lt_of_lt_of_le (show al < 2 ^ 10 from hal) (Nat.pow_le_pow_right (by decide) (by omega)))
      rw [h7]
      cases h8 : m.testBit j with
      | false => rfl
      | true =>
        have h9 : (m &&& al).testBit j = true := by rw [h2]; exact h8
        rw [Nat.testBit_and, Bool.and_eq_true, h7] at h9
        cases h9.2
  rcases h m h2 with ⟨q, ⟨-, e1⟩ | ⟨ne, -⟩⟩ | ⟨-, e1⟩
  · omega
  · exact ne e
  · omega
