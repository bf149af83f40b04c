/-! The class's table of sums. -/
theorem ix64 {i k : Int32} (hi : iv 0 63 i) (hk : iv 0 63 k) : (i * 64 + k).toNatClampNeg = 64 * i.toNatClampNeg + k.toNatClampNeg := by
  have h10 : iv 0 64 (64 : Int32) := iv_wk (c := 0) (iv_c (c := 64) (x := (64 : Int32)) (by decide)) (by decide) (Int.le_refl _)
  have h1 := ti_mul hi h10 (by decide)
  have h2 := iv_mul hi h10 (by decide)
  have h3 := ti_add h2 hk (by decide) (by decide)
  have h4 := iv_cl (iv_add h2 hk (by decide) (by decide)) (by decide)
  have h5 := iv_cl hi (by decide)
  have h6 := iv_cl hk (by decide)
  have h7 : (64 : Int32).toInt = 64 := by decide
  rw [h3, h1.1, h7] at h4
  omega
theorem ix64' {i k : Int32} (hi : iv 0 63 i) (hk : iv 0 63 k) : (64 * i + k).toNatClampNeg = 64 * i.toNatClampNeg + k.toNatClampNeg := by
  rw [Int32.mul_comm]
  exact ix64 hi hk
theorem ix64z {i : Int32} (hi : iv 0 63 i) : (i * 64).toNatClampNeg = 64 * i.toNatClampNeg := by
  have h10 : iv 0 64 (64 : Int32) := iv_wk (c := 0) (iv_c (c := 64) (x := (64 : Int32)) (by decide)) (by decide) (Int.le_refl _)
  have h1 := ti_mul hi h10 (by decide)
  have h4 := iv_cl (iv_mul hi h10 (by decide)) (by decide)
  have h5 := iv_cl hi (by decide)
  have h7 : (64 : Int32).toInt = 64 := by decide
  rw [h1.1, h7] at h4
  omega
theorem ix63 {i : Int32} (hi : iv 0 63 i) : (i * 64 + 64 - 1).toNatClampNeg = 64 * i.toNatClampNeg + 63 := by
  have h10 : iv 0 64 (64 : Int32) := iv_wk (c := 0) (iv_c (c := 64) (x := (64 : Int32)) (by decide)) (by decide) (Int.le_refl _)
  have h1 := ti_mul hi h10 (by decide)
  have h2 := iv_mul hi h10 (by decide)
  have h3 := ti_add h2 h10 (by decide) (by decide)
  have h4 := iv_add h2 (iv_c (c := 64) (x := (64 : Int32)) (by decide)) (by decide) (by decide)
  have h5 := ti_sub h4 (iv_c (c := 1) (x := (1 : Int32)) (by decide)) (by decide) (by decide)
  have h6 := iv_cl (iv_sub h4 (iv_c (c := 1) (x := (1 : Int32)) (by decide)) (by decide) (by decide)) (by decide)
  have h8 := iv_cl hi (by decide)
  have h7 : (64 : Int32).toInt = 64 := by decide
  have h9 : (1 : Int32).toInt = 1 := by decide
  rw [h5, h3, h1.1, h7, h9] at h6
  omega
theorem cl_63 {x : Int32} (h : iv 0 63 x) : x.toNatClampNeg < 64 := by
  have := iv_cl h (by decide)
  have := h.2
  omega
theorem ti_max (x y : Int32) : (ac_max x y).toInt = max x.toInt y.toInt := by
  unfold ac_max
  split
  · rename_i h; have := iv_lt h; omega
  · rename_i h; have := iv_nlt h; omega
def rs_E (f f' : Nat → Int32) (g r : Nat) (a s : Int32) (y : Nat) : Prop := (∀ j, (∀ x, x < 64 → j ≠ 64 * g + x) → f' j = f j) ∧ ∀ x, x < 64 → f' (64 * g + x) = if a.toNatClampNeg &&& x = a.toNatClampNeg ∧ x < y then ac_max (f (64 * g + x)) (s + f (64 * r + (x ^^^ a.toNatClampNeg))) else f (64 * g + x)
theorem rs_0 {f : Nat → Int32} {g r : Nat} {a s : Int32} : rs_E f f g r a s a.toNatClampNeg := by
  refine ⟨fun _ _ => rfl, fun x _ => ?_⟩
  rw [if_neg]
  intro z
  have h1 : a.toNatClampNeg &&& x ≤ x := Nat.and_le_right
  rw [z.1] at h1
  omega
theorem rs_n {f f' : Nat → Int32} {g r : Nat} {a s y : Int32} (ha : iv 0 63 a) (hy : iv 0 63 y) (h : rs_E f f' g r a s y.toNatClampNeg) (c : ¬ (a &&& (y ^^^ (-1))) = 0) : rs_E f f' g r a s (y + 1).toNatClampNeg := by
  refine ⟨h.1, fun x hx => ?_⟩
  rw [iv_n1 hy (by decide) (by decide), h.2 x hx]
  by_cases e : a.toNatClampNeg &&& x = a.toNatClampNeg ∧ x < y.toNatClampNeg
  · rw [if_pos e, if_pos ⟨e.1, by omega⟩]
  · rw [if_neg e, if_neg]
    intro z
    by_cases e2 : x = y.toNatClampNeg
    · rw [e2] at z
      exact c ((sb_iff ha hy).mpr z.1)
    · exact e ⟨z.1, by omega⟩
theorem rs_h {f f' : Nat → Int32} {g r a s y : Int32} (hg : iv 0 63 g) (hr : iv 0 63 r) (hne : r < g) (ha : iv 0 63 a) (hy : iv 0 63 y) (h : rs_E f f' g.toNatClampNeg r.toNatClampNeg a s y.toNatClampNeg) (c : (a &&& (y ^^^ (-1))) = 0) : rs_E f (upd f' (g * 64 + y).toNatClampNeg (ac_max (f' (g * 64 + y).toNatClampNeg) (s + f' (r * 64 + (y &&& (a ^^^ (-1)))).toNatClampNeg))) g.toNatClampNeg r.toNatClampNeg a s (y + 1).toNatClampNeg := by
  have hs := (sb_iff ha hy).mp c
  have hz := lf_eq ha hy hs
  have hz2 := cl_63 (iv_andl (y := a ^^^ (-1)) hy)
  have hy2 := cl_63 hy
  have hlt := iv_lt hne
  have hg2 := iv_cl hg (by decide)
  have hr2 := iv_cl hr (by decide)
  rw [ix64 hg hy, ix64 hr (iv_andl hy), h.1 (64 * r.toNatClampNeg + _) (fun x hx => by omega), h.2 _ hy2, if_neg (by intro z; exact absurd z.2 (Nat.lt_irrefl _)), hz, iv_n1 hy (by decide) (by decide)]
  refine ⟨fun j hj => ?_, fun x hx => ?_⟩
  · unfold upd
    rw [if_neg (hj _ hy2)]
    exact h.1 j hj
  · unfold upd
    by_cases e : x = y.toNatClampNeg
    · rw [if_pos (by rw [e]), e, if_pos ⟨hs, Nat.lt_succ_self _⟩]
    · rw [if_neg (by omega), h.2 x hx]
      by_cases e2 : a.toNatClampNeg &&& x = a.toNatClampNeg ∧ x < y.toNatClampNeg
      · rw [if_pos e2, if_pos ⟨e2.1, by omega⟩]
      · rw [if_neg e2, if_neg (by intro z; exact e2 ⟨z.1, by omega⟩)]
theorem rs_x {f f' : Nat → Int32} {g r : Nat} {a s y : Int32} (hy : iv 0 64 y) (h : rs_E f f' g r a s y.toNatClampNeg) (c : (64 : Int32) ≤ y) : rs_E f f' g r a s 64 := by
  have h1 := iv_le c
  have h2 := iv_cl hy (by decide)
  have h3 : (64 : Int32).toInt = 64 := by decide
  have h4 := hy.2
  have e : y.toNatClampNeg = 64 := by omega
  rw [e] at h
  exact h
/-- the table is right -/
def TBz (T : Nat → Int32) : Prop := ∀ x : Nat, x < 64 → T x = 0
def TBr (n m : Int32) (H B S T : Nat → Int32) : Prop := ∀ G x : Nat, G < 2 ^ n.toNatClampNeg → x < 64 → (T (64 * G + x)).toInt = Wf H B S m.toNatClampNeg G 6 x
def TBs (σ : SS) : Prop := TBr (ac_gi σ 12) (ac_gi σ 13) (ac_ga σ 21) (ac_ga σ 22) (ac_ga σ 23) (ac_ga σ 26)
def TB (σ : SS) : Prop := TBz (ac_ga σ 26) ∧ (ac_gi σ 14 = 0 → TBs σ)
def wg_I (H B S : Nat → Int32) (ns : Nat) (T : Nat → Int32) (g : Nat) : Prop := TBz T ∧ ∀ G x : Nat, G < g → x < 64 → (T (64 * G + x)).toInt = Wf H B S ns G 6 x
theorem wg_0 {H B S : Nat → Int32} {ns : Nat} {T : Nat → Int32} (h : TBz T) : wg_I H B S ns T (1 : Int32).toNatClampNeg := by
  rw [show (1 : Int32).toNatClampNeg = 1 from by decide]
  refine ⟨h, fun G x hG hx => ?_⟩
  have e : G = 0 := by omega
  rw [e, Wf_z, show 64 * 0 + x = x from by omega, h x hx]
  rfl
def wg_J (H B S : Nat → Int32) (ns : Nat) (T : Nat → Int32) (g r h k : Nat) : Prop := wg_I H B S ns T g ∧ ∀ x, x < 64 → (T (64 * g + x)).toInt = mxf (trm H B S (Wf H B S ns r 6) h x) (Wf H B S ns r 6 x) k
theorem low_dec : ∀ g, g < 64 → 0 < g → (0 ≤ (ac_bc ((nI g &&& ((nI g &&& (nI g - 1)) ^^^ (-1))) - 1)).toInt ∧ (ac_bc ((nI g &&& ((nI g &&& (nI g - 1)) ^^^ (-1))) - 1)).toNatClampNeg ≤ 5 ∧ g.testBit (ac_bc ((nI g &&& ((nI g &&& (nI g - 1)) ^^^ (-1))) - 1)).toNatClampNeg = true ∧ (nI g &&& (nI g - 1)).toNatClampNeg < g ∧ ∀ j, j < 6 → (j < (ac_bc ((nI g &&& ((nI g &&& (nI g - 1)) ^^^ (-1))) - 1)).toNatClampNeg → g.testBit j = false) ∧ (nI g &&& (nI g - 1)).toNatClampNeg.testBit j = (g.testBit j && decide ((ac_bc ((nI g &&& ((nI g &&& (nI g - 1)) ^^^ (-1))) - 1)).toNatClampNeg < j))) := by decide +kernel
theorem bit_hi {g j : Nat} (hg : g < 64) (hj : 6 ≤ j) : g.testBit j = false := Nat.testBit_lt_two_pow (Nat.lt_of_lt_of_le (show g < 2 ^ 6 from hg) (Nat.pow_le_pow_right (by decide) hj))
theorem low_x {g r h : Int32} (hg : iv 1 63 g) (er : r = g &&& (g - 1)) (eh : h = ac_bc ((g &&& (r ^^^ (-1))) - 1)) : 0 ≤ h.toInt ∧ h.toNatClampNeg ≤ 5 ∧ g.toNatClampNeg.testBit h.toNatClampNeg = true ∧ r.toNatClampNeg < g.toNatClampNeg ∧ (∀ j, j < h.toNatClampNeg → g.toNatClampNeg.testBit j = false) ∧ ∀ j, r.toNatClampNeg.testBit j = (g.toNatClampNeg.testBit j && decide (h.toNatClampNeg < j)) := by
  have hg0 : iv 0 63 g := iv_wk hg (by decide) (by decide)
  have e := iv_nI' hg0 (by decide)
  have h1 := cl_63 hg0
  have h2 := iv_cl hg0 (by decide)
  have h3 := low_dec g.toNatClampNeg h1 (by have := hg.1; omega)
  rw [← e] at h3
  rw [← er, ← eh] at h3
  obtain ⟨a, b, c, d, f⟩ := h3
  refine ⟨a, b, c, d, fun j hj => (f j (by omega)).1 hj, fun j => ?_⟩
  by_cases hj : j < 6
  · exact (f j hj).2
  · rw [bit_hi h1 (by omega), bit_hi (by omega) (by omega)]
    rfl
theorem wg_c {H B S : Nat → Int32} {ns : Nat} {T : Nat → Int32} {g r : Int32} {h : Nat} (hg : iv 1 63 g) (hr : iv 0 63 r) (er : r = g &&& (g - 1)) (hI : wg_I H B S ns T g.toNatClampNeg) : wg_J H B S ns (va_cpy T T (r * 64).toNatClampNeg (g * 64).toNatClampNeg (64 : Int32).toNatClampNeg) g.toNatClampNeg r.toNatClampNeg h (0 : Int32).toNatClampNeg := by
  have hg0 : iv 0 63 g := iv_wk hg (by decide) (by decide)
  obtain ⟨-, -, -, d, -⟩ := low_x hg er rfl
  rw [ix64z hg0, ix64z hr, show (64 : Int32).toNatClampNeg = 64 from by decide, show (0 : Int32).toNatClampNeg = 0 from by decide]
  have h2 := iv_cl hg0 (by decide)
  have h3 := hg.1
  refine ⟨⟨fun x hx => ?_, fun G x hG hx => ?_⟩, fun x hx => ?_⟩
  · unfold va_cpy
    rw [if_neg (by omega)]
    exact hI.1 x hx
  · unfold va_cpy
    rw [if_neg (by omega)]
    exact hI.2 G x hG hx
  · unfold va_cpy
    rw [if_pos (by omega), show 64 * r.toNatClampNeg + (64 * g.toNatClampNeg + x - 64 * g.toNatClampNeg) = 64 * r.toNatClampNeg + x from by omega]
    exact hI.2 _ x d hx
theorem wg_s {H B S : Nat → Int32} {ns : Nat} {T : Nat → Int32} {g r : Nat} {h k : Int32} (hS : ∀ s, iv 0 100000 (S s)) (hh : 0 ≤ h.toInt) (hk : iv 0 23 k) (hJ : wg_J H B S ns T g r h.toNatClampNeg k.toNatClampNeg) (c : ¬ H k.toNatClampNeg = h) : wg_J H B S ns T g r h.toNatClampNeg (k + 1).toNatClampNeg := by
  refine ⟨hJ.1, fun x hx => ?_⟩
  rw [iv_n1 hk (by decide) (by decide), hJ.2 x hx]
  show _ = max (mxf (trm H B S (Wf H B S ns r 6) h.toNatClampNeg x) (Wf H B S ns r 6 x) k.toNatClampNeg) (trm H B S (Wf H B S ns r 6) h.toNatClampNeg x k.toNatClampNeg)
  have h1 := mxf_ge (f := trm H B S (Wf H B S ns r 6) h.toNatClampNeg x) (a := Wf H B S ns r 6 x) k.toNatClampNeg
  have h2 := (Wf_bd (H := H) (B := B) (ns := ns) (G := r) hS 6 x).1
  have h3 : trm H B S (Wf H B S ns r 6) h.toNatClampNeg x k.toNatClampNeg = 0 := by
    unfold trm
    rw [if_neg]
    intro z
    have h4 : (h.toNatClampNeg : Int) = h.toInt := iv_cl (a := 0) (b := 2147483647) ⟨hh, (iv_any h).2⟩ (by decide)
    exact c (Int32.toInt_inj.mp (by rw [z.1, h4]))
  omega
theorem wg_r {H B S : Nat → Int32} {ns : Nat} {T T' : Nat → Int32} {g r : Nat} {h k : Int32} (hS : ∀ s, iv 0 100000 (S s)) (hB : ∀ s, iv 0 63 (B s)) (hg : 0 < g) (hrg : r < g) (hh : 0 ≤ h.toInt) (hk : iv 0 23 k) (hJ : wg_J H B S ns T g r h.toNatClampNeg k.toNatClampNeg) (c : H k.toNatClampNeg = h) (hR : rs_E T T' g r (B k.toNatClampNeg) (S k.toNatClampNeg) 64) : wg_J H B S ns T' g r h.toNatClampNeg (k + 1).toNatClampNeg := by
  have h4 : (h.toNatClampNeg : Int) = h.toInt := iv_cl (a := 0) (b := 2147483647) ⟨hh, (iv_any h).2⟩ (by decide)
  refine ⟨⟨fun x hx => ?_, fun G x hG hx => ?_⟩, fun x hx => ?_⟩
  · rw [hR.1 x (fun y hy => by omega)]
    exact hJ.1.1 x hx
  · rw [hR.1 (64 * G + x) (fun y hy => by omega)]
    exact hJ.1.2 G x hG hx
  · rw [iv_n1 hk (by decide) (by decide), hR.2 x hx]
    show _ = max (mxf (trm H B S (Wf H B S ns r 6) h.toNatClampNeg x) (Wf H B S ns r 6 x) k.toNatClampNeg) (trm H B S (Wf H B S ns r 6) h.toNatClampNeg x k.toNatClampNeg)
    have h1 := mxf_ge (f := trm H B S (Wf H B S ns r 6) h.toNatClampNeg x) (a := Wf H B S ns r 6 x) k.toNatClampNeg
    have h2 := (Wf_bd (H := H) (B := B) (ns := ns) (G := r) hS 6 x).1
    by_cases e : (B k.toNatClampNeg).toNatClampNeg &&& x = (B k.toNatClampNeg).toNatClampNeg
    · have hx2 : x ^^^ (B k.toNatClampNeg).toNatClampNeg < 64 := Nat.xor_lt_two_pow (n := 6) hx (cl_63 (hB _))
      have h5 := hJ.1.2 r _ hrg hx2
      have h6 := Wf_bd (H := H) (B := B) (ns := ns) (G := r) hS 6 (x ^^^ (B k.toNatClampNeg).toNatClampNeg)
      have h7 : iv 0 600000 (T (64 * r + (x ^^^ (B k.toNatClampNeg).toNatClampNeg))) := ⟨by rw [h5]; exact h6.1, by rw [h5]; have := h6.2; omega⟩
      have h8 := ti_add (hS k.toNatClampNeg) h7 (by decide) (by decide)
      rw [if_pos ⟨e, hx⟩, ti_max, h8, h5, hJ.2 x hx]
      unfold trm
      rw [if_pos ⟨by rw [c, h4], e⟩]
    · rw [if_neg (by intro z; exact e z.1), hJ.2 x hx]
      have h3 : trm H B S (Wf H B S ns r 6) h.toNatClampNeg x k.toNatClampNeg = 0 := by
        unfold trm
        rw [if_neg (by intro z; exact e z.2)]
      omega
theorem wg_e {H B S : Nat → Int32} {T : Nat → Int32} {m g r h k : Int32} (hm : iv 0 24 m) (hk : iv 0 24 k) (hg : iv 1 63 g) (er : r = g &&& (g - 1)) (eh : h = ac_bc ((g &&& (r ^^^ (-1))) - 1)) (hkm : k.toInt ≤ m.toInt) (c : m ≤ k) (hJ : wg_J H B S m.toNatClampNeg T g.toNatClampNeg r.toNatClampNeg h.toNatClampNeg k.toNatClampNeg) : wg_I H B S m.toNatClampNeg T (g + 1).toNatClampNeg := by
  have h1 := iv_le c
  have h2 : k = m := Int32.toInt_inj.mp (by omega)
  subst h2
  obtain ⟨a, b, c, d, e, f⟩ := low_x hg er eh
  rw [iv_n1 hg (by decide) (by decide)]
  refine ⟨hJ.1.1, fun G x hG hx => ?_⟩
  by_cases e2 : G = g.toNatClampNeg
  · rw [e2, hJ.2 x hx]
    exact (Wf_low b c e f x).symm
  · exact hJ.1.2 G x (by omega) hx
theorem ah_ti {n : Int32} (hn : iv 0 6 n) : (((1 : Int32) <<< (n &&& 31)) - 1).toInt = ((2 ^ n.toNatClampNeg : Nat) : Int) - 1 ∧ 2 ^ n.toNatClampNeg ≤ 64 ∧ (((1 : Int32) <<< (n &&& 31)) - 1).toNatClampNeg = 2 ^ n.toNatClampNeg - 1 := by
  obtain ⟨k, e, e2, hk⟩ := nI_iv hn
  have hk6 : k ≤ 6 := by have := hn.2; omega
  have h1 : (2 : Nat) ^ k ≤ 2 ^ 6 := Nat.pow_le_pow_right (by decide) hk6
  have h1' : (2 : Nat) ^ k ≤ 64 := h1
  have h0 : 0 < (2 : Nat) ^ k := Nat.pow_pos (by decide)
  rw [e, nI_clamp hk, nI_shl1 (by omega)]
  have h2 : iv 1 64 (nI (2 ^ k)) := ⟨by rw [nI_toInt (by omega)]; omega, by rw [nI_toInt (by omega)]; omega⟩
  have h3 := ti_sub h2 (iv_c (c := 1) (x := (1 : Int32)) (by decide)) (by decide) (by decide)
  have h4 := iv_cl (iv_sub h2 (iv_c (c := 1) (x := (1 : Int32)) (by decide)) (by decide) (by decide)) (by decide)
  have h5 : (1 : Int32).toInt = 1 := by decide
  rw [nI_toInt (by omega), h5] at h3
  exact ⟨h3, h1', by omega⟩
theorem wg_x {H B S : Nat → Int32} {T : Nat → Int32} {n m g : Int32} (hn : iv 0 6 n) (hg : iv 1 64 g) (hI : wg_I H B S m.toNatClampNeg T g.toNatClampNeg) (c : ((1 : Int32) <<< (n &&& 31)) - 1 < g) : TBr n m H B S T := fun G x hG hx => by
  have h1 := ah_ti hn
  have h2 := iv_lt c
  have h3 := iv_cl hg (by decide)
  exact hI.2 G x (by omega) hx
/-- the first sentence that reaches a sum, as the class looks for it -/
def ft_m (H B S T : Nat → Int32) (sm hs rs bs : Int32) (s : Nat) : Prop := H s = hs ∧ (B s &&& (bs ^^^ (-1))) = 0 ∧ S s + T (rs * 64 + (bs &&& (B s ^^^ (-1)))).toNatClampNeg = sm
def ft_E (H B S T : Nat → Int32) (ns : Nat) (sm hs rs bs r : Int32) : Prop := (r = -1 ∧ (T (rs * 64 + bs).toNatClampNeg = sm ∨ ∀ s, s < ns → ¬ ft_m H B S T sm hs rs bs s)) ∨ (¬ T (rs * 64 + bs).toNatClampNeg = sm ∧ ∃ s, r = nI s ∧ s < ns ∧ ft_m H B S T sm hs rs bs s ∧ ∀ t, t < s → ¬ ft_m H B S T sm hs rs bs t)
def ft_I (H B S T : Nat → Int32) (sm hs rs bs y : Int32) : Prop := ∀ t, t < y.toNatClampNeg → ¬ ft_m H B S T sm hs rs bs t
theorem ft_0 {H B S T : Nat → Int32} {sm hs rs bs : Int32} : ft_I H B S T sm hs rs bs 0 := fun t ht => by
  have : (0 : Int32).toNatClampNeg = 0 := by decide
  omega
theorem ft_n {H B S T : Nat → Int32} {sm hs rs bs y : Int32} (hy : iv 0 23 y) (h : ft_I H B S T sm hs rs bs y) (c : ¬ ft_m H B S T sm hs rs bs y.toNatClampNeg) : ft_I H B S T sm hs rs bs (y + 1) := fun t ht => by
  rw [iv_n1 hy (by decide) (by decide)] at ht
  by_cases e : t = y.toNatClampNeg
  · rw [e]; exact c
  · exact h t (by omega)
theorem ft_z {H B S T : Nat → Int32} {m sm hs rs bs y : Int32} (hm : iv 0 24 m) (hy : iv 0 24 y) (h : ft_I H B S T sm hs rs bs y) (c : m ≤ y) : ft_E H B S T m.toNatClampNeg sm hs rs bs (-1) := by
  have h1 := iv_le c
  have h2 := iv_cl hm (by decide)
  have h3 := iv_cl hy (by decide)
  exact Or.inl ⟨rfl, Or.inr (fun s hs => h s (by omega))⟩
theorem ft_y {H B S T : Nat → Int32} {m sm hs rs bs y : Int32} (hm : iv 0 24 m) (hy : iv 0 23 y) (hn : ¬ T (rs * 64 + bs).toNatClampNeg = sm) (h : ft_I H B S T sm hs rs bs y) (c : y < m) (e : ft_m H B S T sm hs rs bs y.toNatClampNeg) : ft_E H B S T m.toNatClampNeg sm hs rs bs y := by
  have h1 := iv_lt c
  have h2 := iv_cl hm (by decide)
  have h3 := iv_cl hy (by decide)
  exact Or.inr ⟨hn, y.toNatClampNeg, iv_nI' hy (by decide), by omega, e, h⟩
/-- and what that is -/
def sh_L (G : Nat) (n L h : Int32) : Prop := (∀ j, L.toNatClampNeg.testBit j = (G.testBit j && decide (h.toNatClampNeg ≤ j))) ∧ L.toNatClampNeg < 2 ^ n.toNatClampNeg
theorem sh_L0 {n x : Int32} (hn : iv 0 6 n) : sh_L (x &&& (((1 : Int32) <<< (n &&& 31)) - 1)).toNatClampNeg n (x &&& (((1 : Int32) <<< (n &&& 31)) - 1)) 0 := by
  refine ⟨fun j => ?_, ?_⟩
  · rw [show (0 : Int32).toNatClampNeg = 0 from by decide, decide_eq_true (Nat.zero_le _), Bool.and_true]
  · have h1 := ah_ti hn
    have h2 : iv 0 (((2 ^ n.toNatClampNeg : Nat) : Int) - 1) (((1 : Int32) <<< (n &&& 31)) - 1) := ⟨by rw [h1.1]; have : 0 < 2 ^ n.toNatClampNeg := Nat.pow_pos (by decide); omega, by rw [h1.1]; exact Int.le_refl _⟩
    have h3 := iv_andr (x := x) h2
    have h4 := iv_cl h3 (by decide)
    have := h3.2
    omega
theorem bt_rm {L h : Int32} (hL : iv 0 63 L) (hh : iv 0 5 h) (j : Nat) : (L &&& (((1 : Int32) <<< (h &&& 31)) ^^^ (-1))).toNatClampNeg.testBit j = (L.toNatClampNeg.testBit j && decide (¬ h.toNatClampNeg = j)) := by
  rw [← tb_cl (iv_andl hL), tb_and, tb_not, tb_shl1 hh (by decide), tb_cl hL]
  by_cases e : j < 32
  · rw [decide_eq_true e, Bool.true_and]
    by_cases e2 : h.toNatClampNeg = j
    · rw [decide_eq_true e2, decide_eq_false (fun z => z e2)]
      rfl
    · rw [decide_eq_false e2, decide_eq_true e2]
      rfl
  · rw [bit_hi (cl_63 hL) (by omega)]
    rfl
theorem sh_Lr {G : Nat} {n L h : Int32} (hL : iv 0 63 L) (hh : iv 0 5 h) (h1 : sh_L G n L h) : sh_L G n (L &&& (((1 : Int32) <<< (h &&& 31)) ^^^ (-1))) (h + 1) := by
  refine ⟨fun j => ?_, ?_⟩
  · rw [bt_rm hL hh, h1.1 j, iv_n1 hh (by decide) (by decide), Bool.and_assoc]
    congr 1
    rw [Bool.eq_iff_iff]
    simp
    omega
  · have h2 := iv_cl hL (by decide)
    have h3 := ti_andl (y := ((1 : Int32) <<< (h &&& 31)) ^^^ (-1)) hL
    have h4 := iv_cl (iv_andl (y := ((1 : Int32) <<< (h &&& 31)) ^^^ (-1)) hL) (by decide)
    have := h1.2
    omega
theorem sh_Ls {G : Nat} {n L h : Int32} (hh : iv 0 5 h) (hb : G.testBit h.toNatClampNeg = false) (h1 : sh_L G n L h) : sh_L G n L (h + 1) := by
  refine ⟨fun j => ?_, h1.2⟩
  rw [h1.1 j, iv_n1 hh (by decide) (by decide)]
  by_cases e : h.toNatClampNeg = j
  · rw [← e, hb]; rfl
  · congr 1
    rw [Bool.eq_iff_iff]
    simp
    omega
theorem sh_b {G : Nat} {n L h : Int32} (hL : iv 0 63 L) (hh : iv 0 5 h) (h1 : sh_L G n L h) : ((L >>> (h &&& 31)) &&& 1) = 0 ↔ G.testBit h.toNatClampNeg = false := by
  rw [tb_bit0 hh (by decide), tb_cl hL, h1.1 h.toNatClampNeg, decide_eq_true (Nat.le_refl _), Bool.and_true]
theorem sh_pk {H B S T : Nat → Int32} {G : Nat} {n m L h x c : Int32} (hS : ∀ s, iv 0 100000 (S s)) (hB : ∀ s, iv 0 63 (B s)) (hm : iv 0 24 m) (hL : iv 0 63 L) (hx : iv 0 63 x) (hh : iv 0 5 h) (h1 : sh_L G n L h) (hb : G.testBit h.toNatClampNeg = true) (ht : ∀ A y : Nat, A < 2 ^ n.toNatClampNeg → y < 64 → (T (64 * A + y)).toInt = Wf H B S m.toNatClampNeg A 6 y) (hf : ft_E H B S T m.toNatClampNeg (T (L * 64 + x).toNatClampNeg) h (L &&& (((1 : Int32) <<< (h &&& 31)) ^^^ (-1))) x c) : pkP H B S m.toNatClampNeg G h.toNatClampNeg x.toNatClampNeg c := by
  have h2 := sh_Lr hL hh h1
  have hR : iv 0 63 (L &&& (((1 : Int32) <<< (h &&& 31)) ^^^ (-1))) := iv_andl hL
  have hcl := iv_cl hh (by decide)
  have hh5 : h.toNatClampNeg ≤ 5 := by have := hh.2; omega
  have eL := Wf_left (H := H) (B := B) (S := S) (ns := m.toNatClampNeg) (G := G) (L := L.toNatClampNeg) (h := h.toNatClampNeg) (by omega) h1.1
  have eR := Wf_left (H := H) (B := B) (S := S) (ns := m.toNatClampNeg) (G := G) (L := (L &&& (((1 : Int32) <<< (h &&& 31)) ^^^ (-1))).toNatClampNeg) (h := (h + 1).toNatClampNeg) (by rw [iv_n1 hh (by decide) (by decide)]; omega) h2.1
  rw [iv_n1 hh (by decide) (by decide), show 6 - (h.toNatClampNeg + 1) = 5 - h.toNatClampNeg from by omega] at eR
  have tL : (T (L * 64 + x).toNatClampNeg).toInt = Wf H B S m.toNatClampNeg G (6 - h.toNatClampNeg) x.toNatClampNeg := by
    rw [ix64 hL hx, ht _ _ h1.2 (cl_63 hx), eL]
  have tR : ∀ y : Int32, iv 0 63 y → (T ((L &&& (((1 : Int32) <<< (h &&& 31)) ^^^ (-1))) * 64 + y).toNatClampNeg).toInt = Wf H B S m.toNatClampNeg G (5 - h.toNatClampNeg) y.toNatClampNeg := by
    intro y hy
    rw [ix64 hR hy, ht _ _ h2.2 (cl_63 hy), eR]
  have hn : T ((L &&& (((1 : Int32) <<< (h &&& 31)) ^^^ (-1))) * 64 + x).toNatClampNeg = T (L * 64 + x).toNatClampNeg ↔ Wf H B S m.toNatClampNeg G (5 - h.toNatClampNeg) x.toNatClampNeg = Wf H B S m.toNatClampNeg G (6 - h.toNatClampNeg) x.toNatClampNeg := by
    rw [← tL, ← tR x hx]
    exact ⟨fun z => congrArg Int32.toInt z, fun z => Int32.toInt_inj.mp z⟩
  have hmt : ∀ s, ft_m H B S T (T (L * 64 + x).toNatClampNeg) h (L &&& (((1 : Int32) <<< (h &&& 31)) ^^^ (-1))) x s ↔ mtc H B S m.toNatClampNeg G h.toNatClampNeg x.toNatClampNeg s := by
    intro s
    unfold ft_m mtc
    have a1 : H s = h ↔ (H s).toInt = (h.toNatClampNeg : Int) := by
      rw [hcl]
      exact ⟨fun z => congrArg Int32.toInt z, fun z => Int32.toInt_inj.mp z⟩
    rw [a1, sb_iff (hB s) hx]
    refine and_congr_right (fun _ => and_congr_right (fun z => ?_))
    have a2 := tR (x &&& (B s ^^^ (-1))) (iv_andl hx)
    rw [lf_eq (hB s) hx z] at a2
    have a3 := Wf_bd (H := H) (B := B) (ns := m.toNatClampNeg) (G := G) hS (5 - h.toNatClampNeg) (x.toNatClampNeg ^^^ (B s).toNatClampNeg)
    have a4 := ti_add (hS s) (show iv 0 600000 (T ((L &&& (((1 : Int32) <<< (h &&& 31)) ^^^ (-1))) * 64 + (x &&& (B s ^^^ (-1)))).toNatClampNeg) from ⟨by rw [a2]; exact a3.1, by rw [a2]; omega⟩) (by decide) (by decide)
    rw [← tL, ← a2, ← a4]
    exact ⟨fun z => congrArg Int32.toInt z, fun z => Int32.toInt_inj.mp z⟩
  rcases hf with ⟨e, z | z⟩ | ⟨ne, s, e, hs, z, w⟩
  · exact Or.inl ⟨e, Or.inr (Or.inl (hn.mp z))⟩
  · exact Or.inl ⟨e, Or.inr (Or.inr (fun s hs q => z s hs ((hmt s).mpr q)))⟩
  · exact Or.inr ⟨s, e, hs, hb, fun q => ne (hn.mpr q), (hmt s).mp z, fun t ht q => w t ht ((hmt t).mpr q)⟩
/-- the walk of share -/
def sh_I (H B S : Nat → Int32) (m : Int32) (G : Nat) (n L x h : Int32) (w : Nat → Int32) : Prop := sh_L G n L h ∧ BR H B S m.toNatClampNeg G h.toNatClampNeg x.toNatClampNeg ∧ ∀ k : Nat, k < h.toNatClampNeg → wn H B S m.toNatClampNeg G k (w k)
theorem sh_0 {H B S : Nat → Int32} {m n x : Int32} {w : Nat → Int32} (hn : iv 0 6 n) : sh_I H B S m (x &&& (((1 : Int32) <<< (n &&& 31)) - 1)).toNatClampNeg n (x &&& (((1 : Int32) <<< (n &&& 31)) - 1)) 63 0 w := by
  refine ⟨sh_L0 hn, ?_, fun k hk => ?_⟩
  · rw [show (0 : Int32).toNatClampNeg = 0 from by decide]
    show (63 : Int32).toNatClampNeg = 63
    decide
  · have : (0 : Int32).toNatClampNeg = 0 := by decide
    omega
theorem wn_up {H B S : Nat → Int32} {m G : Nat} {h : Int32} {w : Nat → Int32} {c : Int32} (hh : iv 0 5 h) (h1 : ∀ k : Nat, k < h.toNatClampNeg → wn H B S m G k (w k)) (hc : wn H B S m G h.toNatClampNeg c) : ∀ k : Nat, k < (h + 1).toNatClampNeg → wn H B S m G k (upd w h.toNatClampNeg c k) := by
  intro k hk
  rw [iv_n1 hh (by decide) (by decide)] at hk
  unfold upd
  by_cases e : k = h.toNatClampNeg
  · rw [if_pos e, e]; exact hc
  · rw [if_neg e]; exact h1 k (by omega)
theorem sh_no {H B S : Nat → Int32} {m : Int32} {G : Nat} {n L x h : Int32} {w : Nat → Int32} (hL : iv 0 63 L) (hh : iv 0 5 h) (h1 : sh_I H B S m G n L x h w) (c : ¬ ¬ ((L >>> (h &&& 31)) &&& 1) = 0) : sh_I H B S m G n L x (h + 1) (upd w h.toNatClampNeg (-1)) := by
  obtain ⟨a, b, d⟩ := h1
  have hb := (sh_b hL hh a).mp (Classical.not_not.mp c)
  have hp : pkP H B S m.toNatClampNeg G h.toNatClampNeg x.toNatClampNeg (-1) := Or.inl ⟨rfl, Or.inl hb⟩
  refine ⟨sh_Ls hh hb a, ?_, wn_up hh d ⟨_, b, hp⟩⟩
  rw [iv_n1 hh (by decide) (by decide)]
  exact ⟨_, _, b, hp, by unfold nxb; rw [if_pos (by decide)]⟩
theorem upd_two {w : Nat → Int32} {i : Nat} {a b : Int32} : upd (upd w i a) i b = upd w i b := by
  funext j
  unfold upd
  split <;> rfl
theorem sh_go {H B S T : Nat → Int32} {m : Int32} {G : Nat} {n L x h c x' : Int32} {w : Nat → Int32} (hS : ∀ s, iv 0 100000 (S s)) (hB : ∀ s, iv 0 63 (B s)) (hm : iv 0 24 m) (hL : iv 0 63 L) (hx : iv 0 63 x) (hh : iv 0 5 h) (h1 : sh_I H B S m G n L x h w) (hc : ¬ ((L >>> (h &&& 31)) &&& 1) = 0) (ht : ∀ A y : Nat, A < 2 ^ n.toNatClampNeg → y < 64 → (T (64 * A + y)).toInt = Wf H B S m.toNatClampNeg A 6 y) (hf : ft_E H B S T m.toNatClampNeg (T (L * 64 + x).toNatClampNeg) h (L &&& (((1 : Int32) <<< (h &&& 31)) ^^^ (-1))) x c) (e : (c = -1 ∧ x' = x) ∨ (¬ c = -1 ∧ x' = x &&& (B c.toNatClampNeg ^^^ (-1)))) : sh_I H B S m G n (L &&& (((1 : Int32) <<< (h &&& 31)) ^^^ (-1))) x' (h + 1) (upd (upd w h.toNatClampNeg (-1)) h.toNatClampNeg c) := by
  obtain ⟨a, b, d⟩ := h1
  have hb : G.testBit h.toNatClampNeg = true := by
    cases z : G.testBit h.toNatClampNeg with
    | true => rfl
    | false => exact absurd ((sh_b hL hh a).mpr z) hc
  have hp := sh_pk hS hB hm hL hx hh a hb ht hf
  rw [upd_two]
  refine ⟨sh_Lr hL hh a, ?_, wn_up hh d ⟨_, b, hp⟩⟩
  rw [iv_n1 hh (by decide) (by decide)]
  refine ⟨_, _, b, hp, ?_⟩
  have hm24 : m.toNatClampNeg ≤ 24 := by have := iv_cl hm (by decide); have := hm.2; omega
  unfold nxb
  rcases e with ⟨e1, e2⟩ | ⟨e1, e2⟩
  · rw [e1, e2, if_pos (by decide)]
  · rcases pk_iv hm24 hp with z | ⟨s, z1, z2, z3, z4, z5⟩
    · exact absurd z e1
    · rw [if_neg (by omega), e2, lf_eq (hB _) hx (by rw [z4]; exact z5)]
