/-! The model's table of sums, and its first row. -/
def fo_R (H B S : Nat → Int32) (ns G : Nat) (T : Nat → Int32) (y : Int) : Prop := ∀ h x : Nat, y < (h : Int) → h ≤ 6 → x < 64 → (T (64 * h + x)).toInt = Wf H B S ns G (6 - h) x
def fo_Z (T : Nat → Int32) (y : Int32) : Prop := ∀ x : Nat, x < y.toNatClampNeg → T (384 + x) = 0
theorem fo_z0 {T : Nat → Int32} : fo_Z T 0 := fun x hx => by
  have : (0 : Int32).toNatClampNeg = 0 := by decide
  omega
theorem ix384 {y : Int32} (hy : iv 0 63 y) : (384 + y).toNatClampNeg = 384 + y.toNatClampNeg := by
  have h1 := ti_add (iv_c (c := 384) (x := (384 : Int32)) (by decide)) hy (by decide) (by decide)
  have h2 := iv_cl (iv_add (iv_c (c := 384) (x := (384 : Int32)) (by decide)) hy (by decide) (by decide)) (by decide)
  have h3 := iv_cl hy (by decide)
  have h4 : (384 : Int32).toInt = 384 := by decide
  omega
theorem fo_z1 {T : Nat → Int32} {y : Int32} (hy : iv 0 63 y) (h : fo_Z T y) : fo_Z (upd T (384 + y).toNatClampNeg 0) (y + 1) := fun x hx => by
  rw [iv_n1 hy (by decide) (by decide)] at hx
  rw [ix384 hy]
  unfold upd
  by_cases e : x = y.toNatClampNeg
  · rw [if_pos (by rw [e])]
  · rw [if_neg (by omega)]
    exact h x (by omega)
theorem fo_zx {H B S : Nat → Int32} {ns G : Nat} {T : Nat → Int32} {y : Int32} (hy : iv 0 64 y) (h : fo_Z T y) (c : (64 : Int32) ≤ y) : fo_R H B S ns G T (5 : Int32).toInt := fun k x hk hk6 hx => by
  have h1 := iv_le c
  have h2 := iv_cl hy (by decide)
  have h3 : (64 : Int32).toInt = 64 := by decide
  have h4 : (5 : Int32).toInt = 5 := by decide
  have e : k = 6 := by omega
  rw [e, show 64 * 6 + x = 384 + x from by omega, h x (by omega)]
  rfl
/-- one row, up to some bands -/
def fo_C (H B S : Nat → Int32) (ns G : Nat) (T : Nat → Int32) (h x : Int32) : Prop := fo_R H B S ns G T h.toInt ∧ ∀ y : Nat, y < x.toNatClampNeg → (T (64 * h.toNatClampNeg + y)).toInt = Wf H B S ns G (6 - h.toNatClampNeg) y
theorem fo_c0 {H B S : Nat → Int32} {ns G : Nat} {T : Nat → Int32} {h : Int32} (hr : fo_R H B S ns G T h.toInt) : fo_C H B S ns G T h 0 := ⟨hr, fun y hy => by
  have : (0 : Int32).toNatClampNeg = 0 := by decide
  omega⟩
/-- the best so far, over the sentences below k -/
def fo_V (H B S : Nat → Int32) (ns G h x k : Nat) : Int := if G.testBit h = true then mxf (trm H B S (Wf H B S ns G (5 - h)) h x) (Wf H B S ns G (5 - h) x) k else Wf H B S ns G (5 - h) x
theorem fo_up {H B S : Nat → Int32} {ns G : Nat} {T : Nat → Int32} {h x : Int32} (hh : iv 0 5 h) (hx : iv 0 63 x) (hr : fo_R H B S ns G T h.toInt) : (T (64 * (h + 1) + x).toNatClampNeg).toInt = Wf H B S ns G (5 - h.toNatClampNeg) x.toNatClampNeg := by
  have h1 := iv_cl hh (by decide)
  have h2 := iv_add hh (iv_c (c := 1) (x := (1 : Int32)) (by decide)) (by decide) (by decide)
  have h3 := hh.2
  rw [ix64' (iv_wk h2 (by decide) (by decide)) hx, iv_n1 hh (by decide) (by decide), hr _ _ (by omega) (by omega) (cl_63 hx), show 6 - (h.toNatClampNeg + 1) = 5 - h.toNatClampNeg from by omega]
theorem fo_v0 {H B S : Nat → Int32} {ns G : Nat} {T : Nat → Int32} {h x : Int32} (hh : iv 0 5 h) (hx : iv 0 63 x) (hc : fo_C H B S ns G T h x) : (T (64 * (h + 1) + x).toNatClampNeg).toInt = fo_V H B S ns G h.toNatClampNeg x.toNatClampNeg (0 : Int32).toNatClampNeg := by
  rw [fo_up hh hx hc.1, show (0 : Int32).toNatClampNeg = 0 from by decide]
  unfold fo_V
  split <;> rfl
theorem fo_V0 {H B S : Nat → Int32} {ns G h x k : Nat} (hS : ∀ s, iv 0 100000 (S s)) : 0 ≤ fo_V H B S ns G h x k := by
  unfold fo_V
  have h1 := (Wf_bd (H := H) (B := B) (ns := ns) (G := G) hS (5 - h) x).1
  split
  · have := mxf_ge (f := trm H B S (Wf H B S ns G (5 - h)) h x) (a := Wf H B S ns G (5 - h) x) k
    omega
  · exact h1
/-- whether a sentence may be taken, as the model asks -/
def fo_may (H B : Nat → Int32) (G h x : Int32) (s : Nat) : Prop := H s = h ∧ ((G >>> (h &&& 31)) &&& 1) = 1 ∧ (B s &&& x) = B s
theorem fo_bx {b x : Int32} (hb : iv 0 63 b) (hx : iv 0 63 x) : (b &&& x) = b ↔ b.toNatClampNeg &&& x.toNatClampNeg = b.toNatClampNeg := by
  rw [← cl_and hb hx]
  refine ⟨fun z => by rw [z], fun z => ?_⟩
  rw [iv_nI' (iv_andl (y := x) hb) (by decide), z]
  exact (iv_nI' hb (by decide)).symm
theorem fo_ms {H B : Nat → Int32} {G h x : Int32} {s : Nat} (hB : ∀ s, iv 0 63 (B s)) (hG : iv 0 63 G) (hh : iv 0 5 h) (hx : iv 0 63 x) : fo_may H B G h x s ↔ ((H s).toInt = (h.toNatClampNeg : Int) ∧ G.toNatClampNeg.testBit h.toNatClampNeg = true ∧ (B s).toNatClampNeg &&& x.toNatClampNeg = (B s).toNatClampNeg) := by
  unfold fo_may
  rw [tb_bit1 hh (by decide), tb_cl hG, fo_bx (hB s) hx, iv_cl hh (by decide)]
  exact ⟨fun z => ⟨congrArg Int32.toInt z.1, z.2⟩, fun z => ⟨Int32.toInt_inj.mp z.1, z.2⟩⟩
theorem fo_vn {H B S : Nat → Int32} {ns : Nat} {G h x k v : Int32} (hS : ∀ s, iv 0 100000 (S s)) (hB : ∀ s, iv 0 63 (B s)) (hG : iv 0 63 G) (hh : iv 0 5 h) (hx : iv 0 63 x) (hk : iv 0 23 k) (e : v.toInt = fo_V H B S ns G.toNatClampNeg h.toNatClampNeg x.toNatClampNeg k.toNatClampNeg) (c : ¬ fo_may H B G h x k.toNatClampNeg) : v.toInt = fo_V H B S ns G.toNatClampNeg h.toNatClampNeg x.toNatClampNeg (k + 1).toNatClampNeg := by
  rw [iv_n1 hk (by decide) (by decide), e]
  rw [fo_ms hB hG hh hx] at c
  unfold fo_V
  by_cases hb : G.toNatClampNeg.testBit h.toNatClampNeg = true
  · rw [if_pos hb, if_pos hb]
    show _ = max (mxf _ _ k.toNatClampNeg) (trm H B S (Wf H B S ns G.toNatClampNeg (5 - h.toNatClampNeg)) h.toNatClampNeg x.toNatClampNeg k.toNatClampNeg)
    have h1 := mxf_ge (f := trm H B S (Wf H B S ns G.toNatClampNeg (5 - h.toNatClampNeg)) h.toNatClampNeg x.toNatClampNeg) (a := Wf H B S ns G.toNatClampNeg (5 - h.toNatClampNeg) x.toNatClampNeg) k.toNatClampNeg
    have h2 := (Wf_bd (H := H) (B := B) (ns := ns) (G := G.toNatClampNeg) hS (5 - h.toNatClampNeg) x.toNatClampNeg).1
    have h3 : trm H B S (Wf H B S ns G.toNatClampNeg (5 - h.toNatClampNeg)) h.toNatClampNeg x.toNatClampNeg k.toNatClampNeg = 0 := by
      unfold trm
      rw [if_neg (by intro z; exact c ⟨z.1, hb, z.2⟩)]
    omega
  · rw [if_neg hb, if_neg hb]
theorem fo_ng {H B S : Nat → Int32} {ns : Nat} {G h x k v : Int32} {P : Prop} (hS : ∀ s, iv 0 100000 (S s)) (e : v.toInt = fo_V H B S ns G.toNatClampNeg h.toNatClampNeg x.toNatClampNeg k.toNatClampNeg) (c : v < 0) : P := by
  have h1 := fo_V0 (H := H) (B := B) (ns := ns) (G := G.toNatClampNeg) (h := h.toNatClampNeg) (x := x.toNatClampNeg) (k := k.toNatClampNeg) hS
  have h2 := iv_lt c
  have h3 : (0 : Int32).toInt = 0 := by decide
  exact absurd h2 (by omega)
theorem fo_at {H B S : Nat → Int32} {ns : Nat} {T : Nat → Int32} {G h x : Int32} {s : Nat} (hS : ∀ s, iv 0 100000 (S s)) (hB : ∀ s, iv 0 63 (B s)) (hh : iv 0 5 h) (hx : iv 0 63 x) (hr : fo_R H B S ns G.toNatClampNeg T h.toInt) (hb : (B s).toNatClampNeg &&& x.toNatClampNeg = (B s).toNatClampNeg) : (S s + T (64 * (h + 1) + (x &&& (B s ^^^ (-1)))).toNatClampNeg).toInt = (S s).toInt + Wf H B S ns G.toNatClampNeg (5 - h.toNatClampNeg) (x.toNatClampNeg ^^^ (B s).toNatClampNeg) := by
  have h1 := fo_up hh (iv_andl (y := B s ^^^ (-1)) hx) hr
  rw [lf_eq (hB s) hx hb] at h1
  have h2 := Wf_bd (H := H) (B := B) (ns := ns) (G := G.toNatClampNeg) hS (5 - h.toNatClampNeg) (x.toNatClampNeg ^^^ (B s).toNatClampNeg)
  rw [ti_add (hS s) (show iv 0 600000 (T (64 * (h + 1) + (x &&& (B s ^^^ (-1)))).toNatClampNeg) from ⟨by rw [h1]; exact h2.1, by rw [h1]; omega⟩) (by decide) (by decide), h1]
theorem fo_vy {H B S : Nat → Int32} {ns : Nat} {T : Nat → Int32} {G h x k v w : Int32} (hS : ∀ s, iv 0 100000 (S s)) (hB : ∀ s, iv 0 63 (B s)) (hG : iv 0 63 G) (hh : iv 0 5 h) (hx : iv 0 63 x) (hk : iv 0 23 k) (hr : fo_R H B S ns G.toNatClampNeg T h.toInt) (e : v.toInt = fo_V H B S ns G.toNatClampNeg h.toNatClampNeg x.toNatClampNeg k.toNatClampNeg) (c : fo_may H B G h x k.toNatClampNeg) (hw : w.toInt = max v.toInt (S k.toNatClampNeg + T (64 * (h + 1) + (x &&& (B k.toNatClampNeg ^^^ (-1)))).toNatClampNeg).toInt) : w.toInt = fo_V H B S ns G.toNatClampNeg h.toNatClampNeg x.toNatClampNeg (k + 1).toNatClampNeg := by
  rw [fo_ms hB hG hh hx] at c
  rw [iv_n1 hk (by decide) (by decide), hw, e, fo_at hS hB hh hx hr c.2.2]
  unfold fo_V
  rw [if_pos c.2.1, if_pos c.2.1]
  show _ = max (mxf _ _ k.toNatClampNeg) (trm H B S (Wf H B S ns G.toNatClampNeg (5 - h.toNatClampNeg)) h.toNatClampNeg x.toNatClampNeg k.toNatClampNeg)
  unfold trm
  rw [if_pos ⟨c.1, c.2.2⟩]
theorem fo_ya {H B S : Nat → Int32} {ns : Nat} {T : Nat → Int32} {G h x k v : Int32} (hS : ∀ s, iv 0 100000 (S s)) (hB : ∀ s, iv 0 63 (B s)) (hG : iv 0 63 G) (hh : iv 0 5 h) (hx : iv 0 63 x) (hk : iv 0 23 k) (hr : fo_R H B S ns G.toNatClampNeg T h.toInt) (e : v.toInt = fo_V H B S ns G.toNatClampNeg h.toNatClampNeg x.toNatClampNeg k.toNatClampNeg) (c : fo_may H B G h x k.toNatClampNeg) (c2 : v < S k.toNatClampNeg + T (64 * (h + 1) + (x &&& (B k.toNatClampNeg ^^^ (-1)))).toNatClampNeg) : (S k.toNatClampNeg + T (64 * (h + 1) + (x &&& (B k.toNatClampNeg ^^^ (-1)))).toNatClampNeg).toInt = fo_V H B S ns G.toNatClampNeg h.toNatClampNeg x.toNatClampNeg (k + 1).toNatClampNeg :=
  fo_vy hS hB hG hh hx hk hr e c (by have := iv_lt c2; omega)
theorem fo_yb {H B S : Nat → Int32} {ns : Nat} {T : Nat → Int32} {G h x k v : Int32} (hS : ∀ s, iv 0 100000 (S s)) (hB : ∀ s, iv 0 63 (B s)) (hG : iv 0 63 G) (hh : iv 0 5 h) (hx : iv 0 63 x) (hk : iv 0 23 k) (hr : fo_R H B S ns G.toNatClampNeg T h.toInt) (e : v.toInt = fo_V H B S ns G.toNatClampNeg h.toNatClampNeg x.toNatClampNeg k.toNatClampNeg) (c : fo_may H B G h x k.toNatClampNeg) (c2 : S k.toNatClampNeg + T (64 * (h + 1) + (x &&& (B k.toNatClampNeg ^^^ (-1)))).toNatClampNeg ≤ v) : v.toInt = fo_V H B S ns G.toNatClampNeg h.toNatClampNeg x.toNatClampNeg (k + 1).toNatClampNeg :=
  fo_vy hS hB hG hh hx hk hr e c (by have := iv_le c2; omega)
theorem fo_w {H B S : Nat → Int32} {G : Nat} {T : Nat → Int32} {m h x k v : Int32} (hh : iv 0 5 h) (hx : iv 0 63 x) (hc : fo_C H B S m.toNatClampNeg G T h x) (e : v.toInt = fo_V H B S m.toNatClampNeg G h.toNatClampNeg x.toNatClampNeg k.toNatClampNeg) (hkm : k.toInt ≤ m.toInt) (c : m ≤ k) : fo_C H B S m.toNatClampNeg G (upd T (64 * h + x).toNatClampNeg v) h (x + 1) := by
  have h1 := iv_le c
  have h2 : k = m := Int32.toInt_inj.mp (by omega)
  subst h2
  have h3 := iv_cl hh (by decide)
  have h4 := cl_63 hx
  rw [ix64' (iv_wk hh (by decide) (by decide)) hx]
  refine ⟨fun a y ha ha6 hy => ?_, fun y hy => ?_⟩
  · unfold upd
    rw [if_neg (by omega)]
    exact hc.1 a y ha ha6 hy
  · rw [iv_n1 hx (by decide) (by decide)] at hy
    unfold upd
    by_cases e2 : y = x.toNatClampNeg
    · rw [if_pos (by rw [e2]), e, e2]
      unfold fo_V
      have h5 := hh.2
      by_cases hb : G.testBit h.toNatClampNeg = true
      · rw [if_pos hb, Wf_yes (by omega) hb]
      · rw [if_neg hb, Wf_no (by omega) (by rw [Bool.not_eq_true] at hb; exact hb)]
    · rw [if_neg (by omega)]
      exact hc.2 y (by omega)
theorem fo_cx {H B S : Nat → Int32} {ns G : Nat} {T : Nat → Int32} {h x : Int32} (hh : iv 0 5 h) (hx : iv 0 64 x) (hc : fo_C H B S ns G T h x) (c : (64 : Int32) ≤ x) : fo_R H B S ns G T (h + (-1)).toInt := fun a y ha ha6 hy => by
  have h1 := iv_le c
  have h2 := iv_cl hx (by decide)
  have h3 : (64 : Int32).toInt = 64 := by decide
  have h4 := ti_add hh (iv_c (c := -1) (x := (-1 : Int32)) (by decide)) (by decide) (by decide)
  have h5 : (-1 : Int32).toInt = -1 := by decide
  have h6 := iv_cl hh (by decide)
  by_cases e : a = h.toNatClampNeg
  · rw [e]
    exact hc.2 y (by omega)
  · exact hc.1 a y (by omega) ha6 hy
theorem fo_rx {H B S : Nat → Int32} {ns G : Nat} {T : Nat → Int32} {y : Int32} (hr : fo_R H B S ns G T y.toInt) (c : y < 0) : fo_R H B S ns G T (-1) := fun a x ha ha6 hx => hr a x (by
  have := iv_lt c
  have : (0 : Int32).toInt = 0 := by decide
  omega) ha6 hx
/-- the first row, downward -/
def fb_C (H B S : Nat → Int32) (ns G h x : Nat) (c y : Int32) : Prop := (c = -1 ∧ ∀ s : Nat, y.toInt < (s : Int) → s < ns → ¬ (G.testBit h = true ∧ mtc H B S ns G h x s)) ∨ (∃ s : Nat, c = nI s ∧ y.toInt < (s : Int) ∧ s < ns ∧ G.testBit h = true ∧ mtc H B S ns G h x s ∧ ∀ t : Nat, y.toInt < (t : Int) → t < s → ¬ mtc H B S ns G h x t)
def fb_I (H B S : Nat → Int32) (ns G h x : Nat) (w c z y : Int32) : Prop := w.toInt = Wf H B S ns G (6 - h) x ∧ ((z = 1 ∧ c = -1 ∧ Wf H B S ns G (5 - h) x = Wf H B S ns G (6 - h) x) ∨ (z = 0 ∧ ¬ Wf H B S ns G (5 - h) x = Wf H B S ns G (6 - h) x ∧ fb_C H B S ns G h x c y))
theorem fb_wt {H B S : Nat → Int32} {ns G : Nat} {T : Nat → Int32} {h x : Int32} (hh : iv 0 5 h) (hx : iv 0 63 x) (hr : fo_R H B S ns G T (-1)) : (T (64 * h + x).toNatClampNeg).toInt = Wf H B S ns G (6 - h.toNatClampNeg) x.toNatClampNeg := by
  have h1 := iv_cl hh (by decide)
  have h2 := hh.2
  rw [ix64' (iv_wk hh (by decide) (by decide)) hx, hr _ _ (by omega) (by omega) (cl_63 hx)]
theorem fo_rh {H B S : Nat → Int32} {ns G : Nat} {T : Nat → Int32} {h : Int32} (hh : iv 0 5 h) (hr : fo_R H B S ns G T (-1)) : fo_R H B S ns G T h.toInt := fun a x ha ha6 hx => hr a x (by have := hh.1; omega) ha6 hx
theorem fb_1 {H B S : Nat → Int32} {ns G : Nat} {T : Nat → Int32} {h x y : Int32} (hh : iv 0 5 h) (hx : iv 0 63 x) (hr : fo_R H B S ns G T (-1)) (c : T (64 * (h + 1) + x).toNatClampNeg = T (64 * h + x).toNatClampNeg) : fb_I H B S ns G h.toNatClampNeg x.toNatClampNeg (T (64 * h + x).toNatClampNeg) (-1) 1 y := by
  have h1 := fb_wt hh hx hr
  have h2 := fo_up hh hx (fo_rh hh hr)
  exact ⟨h1, Or.inl ⟨rfl, rfl, by rw [← h1, ← h2, c]⟩⟩
theorem fb_0 {H B S : Nat → Int32} {G : Nat} {T : Nat → Int32} {m h x : Int32} (hm : iv 0 24 m) (hh : iv 0 5 h) (hx : iv 0 63 x) (hr : fo_R H B S m.toNatClampNeg G T (-1)) (c : ¬ T (64 * (h + 1) + x).toNatClampNeg = T (64 * h + x).toNatClampNeg) : fb_I H B S m.toNatClampNeg G h.toNatClampNeg x.toNatClampNeg (T (64 * h + x).toNatClampNeg) (-1) 0 (m - 1) := by
  have h1 := fb_wt hh hx hr
  have h2 := fo_up hh hx (fo_rh hh hr)
  refine ⟨h1, Or.inr ⟨rfl, fun z => c (Int32.toInt_inj.mp (by rw [h1, h2, z])), Or.inl ⟨rfl, fun s hs hs2 => ?_⟩⟩⟩
  have h3 := ti_sub hm (iv_c (c := 1) (x := (1 : Int32)) (by decide)) (by decide) (by decide)
  have h4 : (1 : Int32).toInt = 1 := by decide
  have h5 := iv_cl hm (by decide)
  omega
theorem fb_mt {H B S : Nat → Int32} {ns : Nat} {T : Nat → Int32} {G h x w : Int32} {s : Nat} (hS : ∀ s, iv 0 100000 (S s)) (hB : ∀ s, iv 0 63 (B s)) (hG : iv 0 63 G) (hh : iv 0 5 h) (hx : iv 0 63 x) (hr : fo_R H B S ns G.toNatClampNeg T (-1)) (ew : w.toInt = Wf H B S ns G.toNatClampNeg (6 - h.toNatClampNeg) x.toNatClampNeg) : (fo_may H B G h x s ∧ S s + T (64 * (h + 1) + (x &&& (B s ^^^ (-1)))).toNatClampNeg = w) ↔ (G.toNatClampNeg.testBit h.toNatClampNeg = true ∧ mtc H B S ns G.toNatClampNeg h.toNatClampNeg x.toNatClampNeg s) := by
  rw [fo_ms hB hG hh hx]
  unfold mtc
  constructor
  · intro z
    refine ⟨z.1.2.1, z.1.1, z.1.2.2, ?_⟩
    rw [← fo_at hS hB hh hx (fo_rh hh hr) z.1.2.2, z.2, ew]
  · intro z
    refine ⟨⟨z.2.1, z.1, z.2.2.1⟩, Int32.toInt_inj.mp ?_⟩
    rw [fo_at hS hB hh hx (fo_rh hh hr) z.2.2.1, z.2.2.2, ew]
theorem fb_n {H B S : Nat → Int32} {ns : Nat} {T : Nat → Int32} {G h x w c z y : Int32} (hS : ∀ s, iv 0 100000 (S s)) (hB : ∀ s, iv 0 63 (B s)) (hG : iv 0 63 G) (hh : iv 0 5 h) (hx : iv 0 63 x) (hy : iv 0 23 y) (hr : fo_R H B S ns G.toNatClampNeg T (-1)) (hI : fb_I H B S ns G.toNatClampNeg h.toNatClampNeg x.toNatClampNeg w c z y) (hz : z = 0) (hn : ¬ (fo_may H B G h x y.toNatClampNeg ∧ S y.toNatClampNeg + T (64 * (h + 1) + (x &&& (B y.toNatClampNeg ^^^ (-1)))).toNatClampNeg = w)) : fb_I H B S ns G.toNatClampNeg h.toNatClampNeg x.toNatClampNeg w c z (y + (-1)) := by
  obtain ⟨ew, hI⟩ := hI
  rw [fb_mt hS hB hG hh hx hr ew] at hn
  have h1 := ti_add hy (iv_c (c := -1) (x := (-1 : Int32)) (by decide)) (by decide) (by decide)
  have h2 : (-1 : Int32).toInt = -1 := by decide
  have h3 := iv_cl hy (by decide)
  rcases hI with ⟨z1, -, -⟩ | ⟨z0, ne, hC⟩
  · exact absurd (z1.symm.trans hz) (by decide)
  · refine ⟨ew, Or.inr ⟨z0, ne, ?_⟩⟩
    rcases hC with ⟨e, f⟩ | ⟨s, e, l1, l2, b, mt, f⟩
    · refine Or.inl ⟨e, fun s hs hs2 => ?_⟩
      by_cases e2 : s = y.toNatClampNeg
      · rw [e2]; exact hn
      · exact f s (by omega) hs2
    · refine Or.inr ⟨s, e, by omega, l2, b, mt, fun t ht hts => ?_⟩
      by_cases e2 : t = y.toNatClampNeg
      · rw [e2]; exact fun q => hn ⟨b, q⟩
      · exact f t (by omega) hts
theorem fb_y {H B S : Nat → Int32} {T : Nat → Int32} {m G h x w c z y : Int32} (hS : ∀ s, iv 0 100000 (S s)) (hB : ∀ s, iv 0 63 (B s)) (hm : iv 0 24 m) (hG : iv 0 63 G) (hh : iv 0 5 h) (hx : iv 0 63 x) (hy : iv 0 23 y) (hym : y.toInt < m.toInt) (hr : fo_R H B S m.toNatClampNeg G.toNatClampNeg T (-1)) (hI : fb_I H B S m.toNatClampNeg G.toNatClampNeg h.toNatClampNeg x.toNatClampNeg w c z y) (hz : z = 0) (hn : fo_may H B G h x y.toNatClampNeg ∧ S y.toNatClampNeg + T (64 * (h + 1) + (x &&& (B y.toNatClampNeg ^^^ (-1)))).toNatClampNeg = w) : fb_I H B S m.toNatClampNeg G.toNatClampNeg h.toNatClampNeg x.toNatClampNeg w y z (y + (-1)) := by
  obtain ⟨ew, hI⟩ := hI
  rw [fb_mt hS hB hG hh hx hr ew] at hn
  have h1 := ti_add hy (iv_c (c := -1) (x := (-1 : Int32)) (by decide)) (by decide) (by decide)
  have h2 : (-1 : Int32).toInt = -1 := by decide
  have h3 := iv_cl hy (by decide)
  have h4 := iv_cl hm (by decide)
  rcases hI with ⟨z1, -, -⟩ | ⟨z0, ne, hC⟩
  · exact absurd (z1.symm.trans hz) (by decide)
  · exact ⟨ew, Or.inr ⟨z0, ne, Or.inr ⟨y.toNatClampNeg, iv_nI' hy (by decide), by omega, by omega, hn.1, hn.2, fun t ht hts => absurd hts (by omega)⟩⟩⟩
theorem fb_x {H B S : Nat → Int32} {ns G h x : Nat} {w c z y : Int32} (hI : fb_I H B S ns G h x w c z y) (e : y < 0 ∨ ¬ z = 0) : pkP H B S ns G h x c := by
  obtain ⟨ew, hI⟩ := hI
  rcases hI with ⟨-, c1, eq⟩ | ⟨z0, ne, hC⟩
  · exact Or.inl ⟨c1, Or.inr (Or.inl eq)⟩
  · have hy : y.toInt < 0 := by
      rcases e with e | e
      · exact iv_lt e
      · exact absurd z0 e
    rcases hC with ⟨e, f⟩ | ⟨s, e, l1, l2, b, mt, f⟩
    · cases hb : G.testBit h with
      | false => exact Or.inl ⟨e, Or.inl hb⟩
      | true => exact Or.inl ⟨e, Or.inr (Or.inr (fun s hs q => f s (by omega) hs ⟨hb, q⟩))⟩
    · exact Or.inr ⟨s, e, l2, b, ne, mt, fun t ht => f t (by omega) ht⟩
/-- the walk of findBest -/
def fb_J (H B S : Nat → Int32) (m : Int32) (G : Nat) (x h : Int32) (w : Nat → Int32) : Prop := BR H B S m.toNatClampNeg G h.toNatClampNeg x.toNatClampNeg ∧ ∀ k : Nat, k < h.toNatClampNeg → wn H B S m.toNatClampNeg G k (w k)
theorem fb_j0 {H B S : Nat → Int32} {m : Int32} {G : Nat} {w : Nat → Int32} : fb_J H B S m G 63 0 w := by
  refine ⟨?_, fun k hk => ?_⟩
  · rw [show (0 : Int32).toNatClampNeg = 0 from by decide]
    show (63 : Int32).toNatClampNeg = 63
    decide
  · have : (0 : Int32).toNatClampNeg = 0 := by decide
    omega
theorem and_63 {x : Int32} (hx : iv 0 63 x) : x &&& 63 = x := by
  have h := cl_63 hx
  rw [iv_nI' hx (by decide), show (63 : Int32) = nI 63 from rfl, nI_and, show (63 : Nat) = 2 ^ 6 - 1 from rfl, Nat.and_two_pow_sub_one_eq_mod, Nat.mod_eq_of_lt h]
theorem fb_s {H B S : Nat → Int32} {m : Int32} {G : Nat} {x h c x' : Int32} {w : Nat → Int32} (hB : ∀ s, iv 0 63 (B s)) (hm : iv 0 24 m) (hh : iv 0 5 h) (hx : iv 0 63 x) (hJ : fb_J H B S m G x h w) (hp : pkP H B S m.toNatClampNeg G h.toNatClampNeg x.toNatClampNeg c) (e : (c < 0 ∧ x' = x &&& 63) ∨ (0 ≤ c ∧ x' = x &&& (B c.toNatClampNeg ^^^ (-1)))) : fb_J H B S m G x' (h + 1) (upd w h.toNatClampNeg c) := by
  refine ⟨?_, wn_up hh hJ.2 ⟨_, hJ.1, hp⟩⟩
  rw [iv_n1 hh (by decide) (by decide)]
  refine ⟨_, _, hJ.1, hp, ?_⟩
  have hm24 : m.toNatClampNeg ≤ 24 := by have := iv_cl hm (by decide); have := hm.2; omega
  have h0 : (0 : Int32).toInt = 0 := by decide
  unfold nxb
  rcases e with ⟨e1, e2⟩ | ⟨e1, e2⟩
  · have := iv_lt e1
    rw [if_pos (by omega), e2, and_63 hx]
  · have := iv_le e1
    rcases pk_iv hm24 hp with z | ⟨s, z1, z2, z3, z4, z5⟩
    · have h1 : (-1 : Int32).toInt = -1 := by decide
      rw [z] at this
      omega
    · rw [if_neg (by omega), e2, lf_eq (hB _) hx (by rw [z4]; exact z5)]
