/-! The two sides' sentences over states. -/
abbrev WS (σ : SS) (G d x : Nat) : Int := Wf (ac_ga σ 21) (ac_ga σ 22) (ac_ga σ 23) (ac_gi σ 13).toNatClampNeg G d x
abbrev WM (σ : SS) (G d x : Nat) : Int := Wf (ac_ga σ 42) (ac_ga σ 43) (ac_ga σ 44) (ac_gi σ 26).toNatClampNeg G d x
abbrev nS (σ : SS) (G k : Nat) (c : Int32) : Prop := wn (ac_ga σ 21) (ac_ga σ 22) (ac_ga σ 23) (ac_gi σ 13).toNatClampNeg G k c
abbrev nM (σ : SS) (G k : Nat) (c : Int32) : Prop := wn (ac_ga σ 42) (ac_ga σ 43) (ac_ga σ 44) (ac_gi σ 26).toNatClampNeg G k c
abbrev ah (n : Int32) : Int32 := ((1 : Int32) <<< (n &&& 31)) - (1 : Int32)
def isG (n x : Int32) : Prop := 0 ≤ x.toInt ∧ x.toInt ≤ (ah n).toInt
def isH (n x : Int32) : Prop := 0 ≤ x.toInt ∧ x.toInt < n.toInt
theorem TBs_14 {u : SS} {v : Int32} (h : TBs u) : TBs (ac_si u 14 v) := h
theorem TB_25 {u : SS} {f : Nat → Int32} (h : TB u ∧ TBs u) : TB (ac_sa u 25 f) ∧ TBs (ac_sa u 25 f) := h
theorem Gt.s {σ u : SS} (g : Gt σ u) : (ac_gi u 12 = ac_gi σ 12 ∧ ac_gi u 13 = ac_gi σ 13) ∧ ac_ga u 21 = ac_ga σ 21 ∧ ac_ga u 22 = ac_ga σ 22 ∧ ac_ga u 23 = ac_ga σ 23 ∧ ac_ga u 24 = ac_ga σ 24 := ⟨⟨g.2.1 12 rfl, g.2.1 13 rfl⟩, g.2.2 21 rfl, g.2.2 22 rfl, g.2.2 23 rfl, g.2.2 24 rfl⟩
theorem Gd.m {σ u : SS} (g : Gd σ u) : (ac_gi u 25 = ac_gi σ 25 ∧ ac_gi u 26 = ac_gi σ 26) ∧ ac_ga u 42 = ac_ga σ 42 ∧ ac_ga u 43 = ac_ga σ 43 ∧ ac_ga u 44 = ac_ga σ 44 ∧ ac_ga u 41 = ac_ga σ 41 := ⟨⟨g.2.1 25 rfl, g.2.1 26 rfl⟩, g.2.2 42 rfl, g.2.2 43 rfl, g.2.2 44 rfl, g.2.2 41 rfl⟩
theorem Inv.S {σ : SS} (h : Inv σ) : ∀ s, iv 0 100000 (ac_ga σ 23 s) := fun s => h.2 23 s
theorem Inv.B {σ : SS} (h : Inv σ) : ∀ s, iv 0 63 (ac_ga σ 22 s) := fun s => h.2 22 s
theorem Inv.Pr {σ : SS} (h : Inv σ) : ∀ s, iv 0 100000 (ac_ga σ 24 s) := fun s => h.2 24 s
theorem Inv.mS {σ : SS} (h : Inv σ) : ∀ s, iv 0 100000 (ac_ga σ 44 s) := fun s => h.2 44 s
theorem Inv.mB {σ : SS} (h : Inv σ) : ∀ s, iv 0 63 (ac_ga σ 43 s) := fun s => h.2 43 s
theorem Inv.mP {σ : SS} (h : Inv σ) : ∀ s, iv 0 100000 (ac_ga σ 41 s) := fun s => h.2 41 s
theorem Inv.n {σ : SS} (h : Inv σ) : iv 0 6 (ac_gi σ 12) := h.1 12
theorem Inv.ns {σ : SS} (h : Inv σ) : iv 0 24 (ac_gi σ 13) := h.1 13
theorem Inv.mn {σ : SS} (h : Inv σ) : iv 0 6 (ac_gi σ 25) := h.1 25
theorem Inv.mns {σ : SS} (h : Inv σ) : iv 0 24 (ac_gi σ 26) := h.1 26
theorem TBs_at {σ u : SS} (g : Gt σ u) (t : TBs u) : ∀ A y : Nat, A < 2 ^ (ac_gi σ 12).toNatClampNeg → y < 64 → (ac_ga u 26 (64 * A + y)).toInt = WS σ A 6 y := by
  obtain ⟨⟨a, b⟩, c, d, e, -⟩ := g.s
  have h := t
  unfold TBs TBr at h
  rw [a, b, c, d, e] at h
  exact h
theorem wg_end {σ u : SS} {g : Int32} (hg : Gt σ u) (hI : Inv σ) (hy : iv 1 64 g) (h : wg_I (ac_ga σ 21) (ac_ga σ 22) (ac_ga σ 23) (ac_gi σ 13).toNatClampNeg (ac_ga u 26) g.toNatClampNeg) (c : ((1 : Int32) <<< (ac_gi u 12 &&& 31)) - (1 : Int32) < g) : TB (ac_si u 14 0) ∧ TBs (ac_si u 14 0) := by
  obtain ⟨⟨a, b⟩, c1, d, e, -⟩ := hg.s
  have t : TBs u := by
    unfold TBs
    rw [a] at c
    rw [a, b, c1, d, e]
    exact wg_x hI.n hy h c
  exact ⟨⟨h.1, fun _ => TBs_14 t⟩, TBs_14 t⟩
theorem N_lt {r g : Int32} (hr : iv 0 63 r) (hg : iv 0 63 g) (h : r.toNatClampNeg < g.toNatClampNeg) : r < g := by
  rw [Int32.lt_iff_toInt_lt]
  have := iv_cl hr (by decide)
  have := iv_cl hg (by decide)
  omega
theorem isG_lt {n x : Int32} (hn : iv 0 6 n) (h : isG n x) : x.toNatClampNeg < 2 ^ n.toNatClampNeg ∧ iv 0 63 x := by
  have h1 := ah_ti hn
  have h2 := h.1
  have h3 := h.2
  have h4 : (x.toNatClampNeg : Int) = x.toInt := iv_cl (a := 0) (b := 2147483647) ⟨h2, (iv_any x).2⟩ (by decide)
  have h5 : (ah n).toInt = ((2 ^ n.toNatClampNeg : Nat) : Int) - 1 := h1.1
  exact ⟨by omega, ⟨h2, by omega⟩⟩
theorem isG_and {n x : Int32} (hn : iv 0 6 n) (h : isG n x) : (x &&& ah n).toNatClampNeg = x.toNatClampNeg := by
  have h1 := ah_ti hn
  have h2 := isG_lt hn h
  have h3 : iv 0 63 (ah n) := ⟨by have : 0 < 2 ^ n.toNatClampNeg := Nat.pow_pos (by decide); have h5 : (ah n).toInt = ((2 ^ n.toNatClampNeg : Nat) : Int) - 1 := h1.1; omega, by have h5 : (ah n).toInt = ((2 ^ n.toNatClampNeg : Nat) : Int) - 1 := h1.1; omega⟩
  rw [cl_and h2.2 h3, show (ah n).toNatClampNeg = 2 ^ n.toNatClampNeg - 1 from h1.2.2, Nat.and_two_pow_sub_one_eq_mod, Nat.mod_eq_of_lt h2.1]
theorem isG_all {n : Int32} (hn : iv 0 6 n) : isG n (ah n) := by
  have h1 := ah_ti hn
  have h5 : (ah n).toInt = ((2 ^ n.toNatClampNeg : Nat) : Int) - 1 := h1.1
  have : 0 < 2 ^ n.toNatClampNeg := Nat.pow_pos (by decide)
  exact ⟨by omega, Int.le_refl _⟩
theorem isG_sub {n x : Int32} (hn : iv 0 6 n) : isG n (ah n &&& x) := by
  have h1 := isG_all hn
  have h2 := iv_andl (y := x) (show iv 0 (ah n).toInt (ah n) from ⟨h1.1, Int.le_refl _⟩)
  exact h2
theorem gr_x {σ u : SS} {x : Int32} (hg : Gt σ u) (hI : Inv σ) (z : isG (ac_gi σ 12) x) (t : TBs u) : (ac_ga u 26 (((x * (64 : Int32)) + (64 : Int32)) - (1 : Int32)).toNatClampNeg).toInt = WS σ x.toNatClampNeg 6 63 := by
  have h1 := isG_lt hI.n z
  rw [ix63 h1.2]
  exact TBs_at hg t _ _ h1.1 (by decide)
theorem WS_bd {σ : SS} (hI : Inv σ) (G d x : Nat) : 0 ≤ WS σ G d x ∧ WS σ G d x ≤ 100000 * (d : Int) := Wf_bd hI.S d x
theorem WM_bd {σ : SS} (hI : Inv σ) (G d x : Nat) : 0 ≤ WM σ G d x ∧ WM σ G d x ≤ 100000 * (d : Int) := Wf_bd hI.mS d x
/-- share -/
abbrev shI (σ : SS) (x1 L x h : Int32) (w : Nat → Int32) : Prop := sh_I (ac_ga σ 21) (ac_ga σ 22) (ac_ga σ 23) (ac_gi σ 13) (x1 &&& ah (ac_gi σ 12)).toNatClampNeg (ac_gi σ 12) L x h w
def sh_W (σ : SS) (x1 : Int32) (w : Nat → Int32) : Prop := ∀ k : Nat, k < (ac_gi σ 12).toNatClampNeg → nS σ (x1 &&& ah (ac_gi σ 12)).toNatClampNeg k (w k)
theorem sh_gs {σ s : SS} {x1 L x h c x' : Int32} (hg : Gt σ s) (hI : Inv σ) (hL : iv 0 63 L) (hx : iv 0 63 x) (hh : iv 0 5 h) (t : TBs s) (h1 : shI σ x1 L x h (ac_ga s 25)) (hc : ¬ ((L >>> (h &&& 31)) &&& 1) = 0) (hf : ft_E (ac_ga s 21) (ac_ga s 22) (ac_ga s 23) (ac_ga s 26) (ac_gi s 13).toNatClampNeg (ac_ga s 26 ((L * (64 : Int32)) + x).toNatClampNeg) h (L &&& (((1 : Int32) <<< (h &&& 31)) ^^^ (-1 : Int32))) x c) (e : (upd (upd (ac_ga s 25) h.toNatClampNeg (-1 : Int32)) h.toNatClampNeg c h.toNatClampNeg = -1 ∧ x' = x) ∨ (¬ upd (upd (ac_ga s 25) h.toNatClampNeg (-1 : Int32)) h.toNatClampNeg c h.toNatClampNeg = -1 ∧ x' = x &&& (ac_ga s 22 (upd (upd (ac_ga s 25) h.toNatClampNeg (-1 : Int32)) h.toNatClampNeg c h.toNatClampNeg).toNatClampNeg ^^^ (-1 : Int32)))) : shI σ x1 (L &&& (((1 : Int32) <<< (h &&& 31)) ^^^ (-1 : Int32))) x' (h + (1 : Int32)) (upd (upd (ac_ga s 25) h.toNatClampNeg (-1 : Int32)) h.toNatClampNeg c) := by
  have ht := TBs_at hg t
  obtain ⟨⟨a, b⟩, c1, d, e1, -⟩ := hg.s
  have eu : upd (upd (ac_ga s 25) h.toNatClampNeg (-1 : Int32)) h.toNatClampNeg c h.toNatClampNeg = c := if_pos rfl
  rw [eu, d] at e
  rw [b, c1, d, e1] at hf
  exact sh_go hI.S hI.B hI.ns hL hx hh h1 hc ht hf e
theorem sh_x {σ : SS} {x1 L x h : Int32} {w : Nat → Int32} (hI : Inv σ) (hh : iv 0 6 h) (h1 : shI σ x1 L x h w) (c : ac_gi σ 12 ≤ h) : sh_W σ x1 w := fun k hk => by
  have h2 := iv_le c
  have h3 := iv_cl hh (by decide)
  have h4 := iv_cl hI.n (by decide)
  exact h1.2.2 k (by omega)
/-- who has won what -/
theorem wn_lt {H B S : Nat → Int32} {ns G h : Nat} {c : Int32} (hns : ns ≤ 24) (h1 : wn H B S ns G h c) : c.toInt < (ns : Int) := by
  obtain ⟨x, -, hp⟩ := h1
  rcases pk_iv hns hp with e | ⟨s, e1, e2, e3, -⟩
  · rw [e]
    have : (-1 : Int32).toInt = -1 := by decide
    omega
  · omega
theorem ns_le {m : Int32} (hm : iv 0 24 m) : m.toNatClampNeg ≤ 24 := by
  have := iv_cl hm (by decide)
  have := hm.2
  omega
theorem sh_lt {σ : SS} {x1 : Int32} {w : Nat → Int32} (hI : Inv σ) (h : sh_W σ x1 w) : ∀ k : Nat, k < (ac_gi σ 12).toNatClampNeg → (w k).toInt < (ac_gi σ 13).toInt := fun k hk => by
  have h1 := wn_lt (ns_le hI.ns) (h k hk)
  have h2 := iv_cl hI.ns (by decide)
  omega
theorem isH_N {n x : Int32} (h : isH n x) : x.toNatClampNeg < n.toNatClampNeg := by
  have h4 : (x.toNatClampNeg : Int) = x.toInt := iv_cl (a := 0) (b := 2147483647) ⟨h.1, (iv_any x).2⟩ (by decide)
  have h5 : (n.toNatClampNeg : Int) = n.toInt := iv_cl (a := 0) (b := 2147483647) ⟨by have := h.1; have := h.2; omega, (iv_any n).2⟩ (by decide)
  have := h.2
  omega
/-- takes -/
def tk_E (W : Nat → Int) (n : Int32) (V : Nat → Int32 → Prop) (S : Nat → Int32) (x r : Int32) : Prop := ∃ c, V x.toNatClampNeg c ∧ r.toInt = W (ah n &&& (((1 : Int32) <<< (x &&& 31)) ^^^ (-1 : Int32))).toNatClampNeg - (W (ah n).toNatClampNeg - (wv S c).toInt)
theorem tk_ti {a b w : Int32} {A B : Int} (ha : a.toInt = A) (hb : b.toInt = B) (hA : 0 ≤ A ∧ A ≤ 600000) (hB : 0 ≤ B ∧ B ≤ 600000) (hw : iv 0 100000 w) : (b - (a - w)).toInt = B - (A - w.toInt) := by
  have h1 : iv 0 600000 a := ⟨by omega, by omega⟩
  have h2 : iv 0 600000 b := ⟨by omega, by omega⟩
  rw [ti_sub h2 (iv_sub h1 hw (by decide) (by decide)) (by decide) (by decide), ti_sub h1 hw (by decide) (by decide), ha, hb]
theorem tk_x {σ u1 u2 u3 : SS} {x a w b : Int32} (hI : Inv σ) (g1 : Gt σ u1) (g2 : Gt u1 u2) (m1 : TB σ → TB u1 ∧ TBs u1 ∧ sh_W σ (ah (ac_gi σ 12)) (ac_ga u1 25)) (m2 : ac_ga u2 25 = ac_ga u1 25 ∧ (TB u1 → TB u2 ∧ (isG (ac_gi u1 12) (ah (ac_gi σ 12)) → a.toInt = WS u1 (ah (ac_gi σ 12)).toNatClampNeg 6 63))) (m3 : isH (ac_gi u2 12) x → (ac_ga u2 25 x.toNatClampNeg).toInt < (ac_gi u2 13).toInt → w = wv (ac_ga u2 23) (ac_ga u2 25 x.toNatClampNeg)) (m4 : ac_ga u3 25 = ac_ga u2 25 ∧ (TB u2 → TB u3 ∧ (isG (ac_gi u2 12) (ah (ac_gi σ 12) &&& (((1 : Int32) <<< (x &&& 31)) ^^^ (-1 : Int32))) → b.toInt = WS u2 (ah (ac_gi σ 12) &&& (((1 : Int32) <<< (x &&& 31)) ^^^ (-1 : Int32))).toNatClampNeg 6 63))) (t : TB σ) : TB u3 ∧ (isH (ac_gi σ 12) x → tk_E (fun G => WS σ G 6 63) (ac_gi σ 12) (nS σ (ah (ac_gi σ 12)).toNatClampNeg) (ac_ga σ 23) x (b - (a - w))) := by
  obtain ⟨t1, s1, w1⟩ := m1 t
  obtain ⟨e2, m2⟩ := m2
  obtain ⟨t2, m2⟩ := m2 t1
  obtain ⟨-, m4⟩ := m4
  obtain ⟨t3, m4⟩ := m4 t2
  refine ⟨t3, fun hx => ?_⟩
  obtain ⟨⟨q1, q2⟩, q3, q4, q5, -⟩ := g1.s
  obtain ⟨⟨p1, p2⟩, p3, p4, p5, -⟩ := (g1.tr g2).s
  unfold WS at m2 m4
  rw [q1, q2, q3, q4, q5] at m2
  rw [p1, p2, p3, p4, p5] at m4
  rw [p1, p2, p5, e2] at m3
  have hw := w1 x.toNatClampNeg (isH_N hx)
  rw [isG_and hI.n (isG_all hI.n)] at hw
  have m3 := m3 hx (sh_lt hI w1 _ (isH_N hx))
  refine ⟨_, hw, ?_⟩
  rw [m3]
  have b1 := WS_bd hI (ah (ac_gi σ 12)).toNatClampNeg 6 63
  have b2 := WS_bd hI (ah (ac_gi σ 12) &&& (((1 : Int32) <<< (x &&& 31)) ^^^ (-1 : Int32))).toNatClampNeg 6 63
  exact tk_ti (m2 (isG_all hI.n)) (m4 (isG_sub hI.n)) b1 b2 (wv_iv hI.S _)
/-- blocks -/
theorem kl_0 {w p S : Nat → Int32} {g : Nat} : (0 : Int32).toInt = kp w p S g (0 : Int32).toNatClampNeg := by
  rw [show (0 : Int32).toNatClampNeg = 0 from by decide]
  rfl
theorem kl_z {w p S : Nat → Int32} {g : Nat} {v h : Int32} (hh : iv 0 5 h) (e : v.toInt = kp w p S g h.toNatClampNeg) (c : (w h.toNatClampNeg).toInt < 0) : v.toInt = kp w p S g (h + 1).toNatClampNeg := by
  rw [iv_n1 hh (by decide) (by decide)]
  show _ = kp w p S g h.toNatClampNeg + kt w p S g h.toNatClampNeg
  unfold kt
  rw [if_pos c, e]
  omega
theorem kl_g {w p S : Nat → Int32} {g : Nat} {v h d : Int32} (hp : ∀ j, iv 0 100000 (p j)) (hS : ∀ s, iv 0 100000 (S s)) (hh : iv 0 5 h) (e : v.toInt = kp w p S g h.toNatClampNeg) (c : ¬ (w h.toNatClampNeg).toInt < 0) (hd : d.toInt = if g.testBit h.toNatClampNeg = true then max 0 ((wv S (w h.toNatClampNeg)).toInt - (p h.toNatClampNeg).toInt) else 0) : ((v + p h.toNatClampNeg) + d).toInt = kp w p S g (h + 1).toNatClampNeg := by
  have h1 := kp_bd (w := w) (g := g) hp hS h.toNatClampNeg
  have h2 := iv_cl hh (by decide)
  have h3 := hh.2
  have h4 := wv_iv hS (w h.toNatClampNeg)
  have h5 := hp h.toNatClampNeg
  have hv : iv 0 1000000 v := ⟨by omega, by omega⟩
  have hdv : iv 0 100000 d := by
    have := h4.1; have := h4.2; have := h5.1; have := h5.2
    constructor <;> rw [hd] <;> split <;> omega
  rw [ti_add (iv_add hv h5 (by decide) (by decide)) hdv (by decide) (by decide), ti_add hv h5 (by decide) (by decide), iv_n1 hh (by decide) (by decide)]
  show _ = kp w p S g h.toNatClampNeg + kt w p S g h.toNatClampNeg
  unfold kt
  rw [if_neg c, e, hd]
  omega
theorem kl_max {a b : Int32} (ha : iv 0 100000 a) (hb : iv 0 100000 b) : (ac_max 0 (a - b)).toInt = max 0 (a.toInt - b.toInt) := by
  rw [ti_max, ti_sub ha hb (by decide) (by decide)]
  rfl
theorem m1_lt {c : Int32} (hc : iv (-1) 23 c) : c = -1 ↔ c.toInt < 0 := by
  have h1 : (-1 : Int32).toInt = -1 := by decide
  constructor
  · intro z; rw [z]; omega
  · intro z
    exact Int32.toInt_inj.mp (by have := hc.1; omega)
abbrev bkS (σ : SS) (w : Nat → Int32) (G : Nat) : Prop := kp w (ac_ga σ 24) (ac_ga σ 23) G (ac_gi σ 12).toNatClampNeg < WS σ G 6 63
abbrev bkM (σ : SS) (w : Nat → Int32) (G : Nat) : Prop := kp w (ac_ga σ 41) (ac_ga σ 44) G (ac_gi σ 25).toNatClampNeg < WM σ G 6 63
theorem kl_y {w p S : Nat → Int32} {g v h r : Int32} (hp : ∀ j, iv 0 100000 (p j)) (hS : ∀ s, iv 0 100000 (S s)) (hg : iv 0 63 g) (hh : iv 0 5 h) (e : v.toInt = kp w p S g.toNatClampNeg h.toNatClampNeg) (c : ¬ (w h.toNatClampNeg).toInt < 0) (er : r = wv S (w h.toNatClampNeg)) (hb : ¬ ((g >>> (h &&& 31)) &&& 1) = 0) : ((v + p h.toNatClampNeg) + ac_max 0 (r - p h.toNatClampNeg)).toInt = kp w p S g.toNatClampNeg (h + 1).toNatClampNeg := by
  refine kl_g hp hS hh e c ?_
  rw [er, kl_max (wv_iv hS _) (hp _), if_pos]
  cases z : g.toNatClampNeg.testBit h.toNatClampNeg with
  | true => rfl
  | false => exact absurd ((tb_bit0 hh (by decide)).mpr (by rw [tb_cl hg]; exact z)) hb
theorem kl_n {w p S : Nat → Int32} {g v h : Int32} (hp : ∀ j, iv 0 100000 (p j)) (hS : ∀ s, iv 0 100000 (S s)) (hg : iv 0 63 g) (hh : iv 0 5 h) (e : v.toInt = kp w p S g.toNatClampNeg h.toNatClampNeg) (c : ¬ (w h.toNatClampNeg).toInt < 0) (hb : ¬ ¬ ((g >>> (h &&& 31)) &&& 1) = 0) : ((v + p h.toNatClampNeg) + (0 : Int32)).toInt = kp w p S g.toNatClampNeg (h + 1).toNatClampNeg := by
  refine kl_g hp hS hh e c ?_
  have z := (tb_bit0 hh (by decide)).mp (Classical.not_not.mp hb)
  rw [tb_cl hg] at z
  rw [if_neg (by rw [z]; decide)]
  rfl
theorem kl_x {w p S : Nat → Int32} {g : Nat} {v h n : Int32} (hn : iv 0 6 n) (hh : iv 0 6 h) (hle : h.toInt ≤ n.toInt) (e : v.toInt = kp w p S g h.toNatClampNeg) (c : n ≤ h) : v.toInt = kp w p S g n.toNatClampNeg := by
  have h1 := iv_le c
  have h2 : h = n := Int32.toInt_inj.mp (by omega)
  rw [← h2]
  exact e
/-- alone -/
def al_E (K : (Nat → Int32) → Nat → Prop) (n : Int32) (V : Nat → Int32 → Prop) (r : Int32) : Prop := ∃ w : Nat → Int32, (∀ k : Nat, k < n.toNatClampNeg → V k (w k)) ∧ ((r = -1 ∧ ∀ G : Nat, 1 ≤ G → G < 2 ^ n.toNatClampNeg → ¬ K w G) ∨ (iv 1 63 r ∧ r.toNatClampNeg < 2 ^ n.toNatClampNeg ∧ K w r.toNatClampNeg ∧ ∀ G : Nat, 1 ≤ G → G < r.toNatClampNeg → ¬ K w G))
def al_I (K : Nat → Prop) (y : Int32) : Prop := ∀ G : Nat, 1 ≤ G → G < y.toNatClampNeg → ¬ K G
theorem al_0 {K : Nat → Prop} : al_I K 1 := fun G h1 h2 => by
  have : (1 : Int32).toNatClampNeg = 1 := by decide
  omega
theorem al_s {K : Nat → Prop} {y : Int32} (hy : iv 1 63 y) (h : al_I K y) (c : ¬ K y.toNatClampNeg) : al_I K (y + 1) := fun G h1 h2 => by
  rw [iv_n1 hy (by decide) (by decide)] at h2
  by_cases e : G = y.toNatClampNeg
  · rw [e]; exact c
  · exact h G h1 (by omega)
theorem al_z {K : Nat → Prop} {n y : Int32} (hn : iv 0 6 n) (hy : iv 1 64 y) (h : al_I K y) (c : ah n < y) : ∀ G : Nat, 1 ≤ G → G < 2 ^ n.toNatClampNeg → ¬ K G := fun G h1 h2 => by
  have h3 := ah_ti hn
  have h4 := iv_lt c
  have h5 := iv_cl hy (by decide)
  have h6 : (ah n).toInt = ((2 ^ n.toNatClampNeg : Nat) : Int) - 1 := h3.1
  exact h G h1 (by omega)
theorem al_uniq {K K' : (Nat → Int32) → Nat → Prop} {n r1 r2 : Int32} {V : Nat → Int32 → Prop} (hV : ∀ k c d, V k c → V k d → c = d) (hK : ∀ w w' G, (∀ k : Nat, k < n.toNatClampNeg → w k = w' k) → (K w G ↔ K' w' G)) (h1 : al_E K n V r1) (h2 : al_E K' n V r2) : r1 = r2 := by
  obtain ⟨w, v1, h1⟩ := h1
  obtain ⟨w', v2, h2⟩ := h2
  have e := fun G => hK w w' G (fun k hk => hV k _ _ (v1 k hk) (v2 k hk))
  rcases h1 with ⟨e1, f1⟩ | ⟨i1, l1, k1, f1⟩ <;> rcases h2 with ⟨e2, f2⟩ | ⟨i2, l2, k2, f2⟩
  · rw [e1, e2]
  · have := iv_cl i2 (by decide)
    have := i2.1
    exact absurd ((e _).mpr k2) (f1 _ (by omega) l2)
  · have := iv_cl i1 (by decide)
    have := i1.1
    exact absurd ((e _).mp k1) (f2 _ (by omega) l1)
  · have a1 := iv_cl i1 (by decide)
    have a2 := iv_cl i2 (by decide)
    have b1 := i1.1
    have b2 := i2.1
    rcases Nat.lt_trichotomy r1.toNatClampNeg r2.toNatClampNeg with z | z | z
    · exact absurd ((e _).mp k1) (f2 _ (by omega) z)
    · exact Int32.toInt_inj.mp (by omega)
    · exact absurd ((e _).mpr k2) (f1 _ (by omega) z)
theorem wl_t {a v : Int32} {A B : Int} (ha : a.toInt = A) (hv : v.toInt = B) (c : v < a) : ((1 : Int32) = 1 ↔ B < A) := ⟨fun _ => by have := iv_lt c; omega, fun _ => rfl⟩
theorem wl_f {a v : Int32} {A B : Int} (ha : a.toInt = A) (hv : v.toInt = B) (c : a ≤ v) : ((0 : Int32) = 1 ↔ B < A) := ⟨fun h => absurd h (by decide), fun h => by have := iv_le c; omega⟩
abbrev rgS (σ : SS) : Prop := ∀ k : Nat, k < (ac_gi σ 12).toNatClampNeg → (ac_ga σ 25 k).toInt < (ac_gi σ 13).toInt
theorem bk_at {σ s : SS} (hg : Gt σ s) (w : Nat → Int32) (G : Nat) : bkS s w G ↔ bkS σ w G := by
  obtain ⟨⟨a, b⟩, c, d, e, f⟩ := hg.s
  unfold bkS WS
  rw [a, b, c, d, e, f]
theorem rg_at {σ s : SS} {x1 : Int32} (hI : Inv σ) (hg : Gt σ s) (h : sh_W σ x1 (ac_ga s 25)) : rgS s := by
  have h1 := sh_lt hI h
  obtain ⟨⟨a, b⟩, -⟩ := hg.s
  unfold rgS
  rw [a, b]
  exact h1
theorem isG_at {σ s : SS} {y : Int32} (hg : Gt σ s) (hy : iv 1 63 y) (c : y ≤ ah (ac_gi s 12)) : isG (ac_gi s 12) y := ⟨by have := hy.1; omega, iv_le c⟩
theorem fl_s {σ s u : SS} {y : Int32} (hI : Inv σ) (hg : Gt σ s) (hy : iv 1 63 y) (c : y ≤ ah (ac_gi s 12)) (E : TB s ∧ sh_W σ (ah (ac_gi σ 12)) (ac_ga s 25) ∧ al_I (bkS σ (ac_ga s 25)) y) (m : ac_ga u 25 = ac_ga s 25 ∧ (TB s → TB u ∧ (isG (ac_gi s 12) y → rgS s → ((0 : Int32) = 1 ↔ bkS s (ac_ga s 25) y.toNatClampNeg)))) : TB u ∧ sh_W σ (ah (ac_gi σ 12)) (ac_ga u 25) ∧ al_I (bkS σ (ac_ga u 25)) (y + (1 : Int32)) := by
  obtain ⟨e1, m⟩ := m
  obtain ⟨t, m⟩ := m E.1
  have h1 := m (isG_at hg hy c) (rg_at hI hg E.2.1)
  rw [bk_at hg] at h1
  rw [e1]
  exact ⟨t, E.2.1, al_s hy E.2.2 (fun z => absurd (h1.mpr z) (by decide))⟩
theorem sh_V {σ : SS} {w : Nat → Int32} (hI : Inv σ) (h : sh_W σ (ah (ac_gi σ 12)) w) : ∀ k : Nat, k < (ac_gi σ 12).toNatClampNeg → nS σ (ah (ac_gi σ 12)).toNatClampNeg k (w k) := fun k hk => by
  have h1 := h k hk
  rw [isG_and hI.n (isG_all hI.n)] at h1
  exact h1
theorem fl_y {σ s u : SS} {y : Int32} (hI : Inv σ) (hg : Gt σ s) (hy : iv 1 63 y) (c : y ≤ ah (ac_gi s 12)) (E : TB s ∧ sh_W σ (ah (ac_gi σ 12)) (ac_ga s 25) ∧ al_I (bkS σ (ac_ga s 25)) y) (m : ac_ga u 25 = ac_ga s 25 ∧ (TB s → TB u ∧ (isG (ac_gi s 12) y → rgS s → ((1 : Int32) = 1 ↔ bkS s (ac_ga s 25) y.toNatClampNeg)))) : TB u ∧ al_E (bkS σ) (ac_gi σ 12) (nS σ (ah (ac_gi σ 12)).toNatClampNeg) y := by
  obtain ⟨e1, m⟩ := m
  obtain ⟨t, m⟩ := m E.1
  have g0 := isG_at hg hy c
  have h1 := m g0 (rg_at hI hg E.2.1)
  rw [bk_at hg] at h1
  rw [hg.s.1.1] at g0
  exact ⟨t, ac_ga s 25, sh_V hI E.2.1, Or.inr ⟨hy, (isG_lt hI.n g0).1, h1.mp rfl, E.2.2⟩⟩
theorem fl_z {σ s : SS} {y : Int32} (hI : Inv σ) (hg : Gt σ s) (hy : iv 1 64 y) (c : ah (ac_gi s 12) < y) (E : TB s ∧ sh_W σ (ah (ac_gi σ 12)) (ac_ga s 25) ∧ al_I (bkS σ (ac_ga s 25)) y) : TB s ∧ al_E (bkS σ) (ac_gi σ 12) (nS σ (ah (ac_gi σ 12)).toNatClampNeg) (-1) := by
  rw [hg.s.1.1] at c
  exact ⟨E.1, ac_ga s 25, sh_V hI E.2.1, Or.inl ⟨rfl, al_z hI.n hy E.2.2 c⟩⟩
/-- best -/
def bs_P (n g w : Int32) : Prop := isG n g ∧ (w = -1 ∨ (isH n w ∧ ¬ ((g >>> (w &&& 31)) &&& 1) = 0))
def bs_E (n : Int32) (W : Nat → Int) (V : Nat → Nat → Int32 → Prop) (g w r : Int32) : Prop := (¬ bs_P n g w ∧ r = -10) ∨ (bs_P n g w ∧ ((w = -1 ∧ r.toInt = W g.toNatClampNeg) ∨ (¬ w = -1 ∧ V g.toNatClampNeg w.toNatClampNeg r)))
theorem bs_uniq {n g w r1 r2 : Int32} {W : Nat → Int} {V : Nat → Nat → Int32 → Prop} (hV : ∀ G k c d, V G k c → V G k d → c = d) (h1 : bs_E n W V g w r1) (h2 : bs_E n W V g w r2) : r1 = r2 := by
  rcases h1 with ⟨p1, e1⟩ | ⟨p1, ⟨a1, e1⟩ | ⟨a1, e1⟩⟩ <;> rcases h2 with ⟨p2, e2⟩ | ⟨p2, ⟨a2, e2⟩ | ⟨a2, e2⟩⟩
  · rw [e1, e2]
  · exact absurd p2 p1
  · exact absurd p2 p1
  · exact absurd p1 p2
  · exact Int32.toInt_inj.mp (by rw [e1, e2])
  · exact absurd a1 a2
  · exact absurd p1 p2
  · exact absurd a2 a1
  · exact hV _ _ _ _ e1 e2
theorem bs_w {σ u : SS} {g w : Int32} (hI : Inv σ) (z : isG (ac_gi σ 12) g) (hw : isH (ac_gi σ 12) w) (h : sh_W σ g (ac_ga u 25)) : nS σ g.toNatClampNeg w.toNatClampNeg (ac_ga u 25 w.toNatClampNeg) := by
  have h1 := h _ (isH_N hw)
  rw [isG_and hI.n z] at h1
  exact h1
def tk_A (W : Nat → Int) (n : Int32) (V : Nat → Int32 → Prop) (S : Nat → Int32) (x r : Int32) : Prop := (isH n x ∧ tk_E W n V S x r) ∨ (¬ isH n x ∧ r = -2)
theorem tk_uniq {W : Nat → Int} {n x r1 r2 : Int32} {V : Nat → Int32 → Prop} {S : Nat → Int32} (hV : ∀ k c d, V k c → V k d → c = d) (h1 : tk_A W n V S x r1) (h2 : tk_A W n V S x r2) : r1 = r2 := by
  rcases h1 with ⟨p1, c, v1, e1⟩ | ⟨p1, e1⟩ <;> rcases h2 with ⟨p2, d, v2, e2⟩ | ⟨p2, e2⟩
  · have e := hV _ _ _ v1 v2
    subst e
    exact Int32.toInt_inj.mp (by rw [e1, e2])
  · exact absurd p1 p2
  · exact absurd p2 p1
  · rw [e1, e2]
def bl_A (K : (Nat → Int32) → Nat → Prop) (n : Int32) (V : Nat → Int32 → Prop) (x r : Int32) : Prop := (isG n x ∧ ∃ w : Nat → Int32, (∀ k : Nat, k < n.toNatClampNeg → V k (w k)) ∧ ((r = 1 ∧ K w x.toNatClampNeg) ∨ (r = 0 ∧ ¬ K w x.toNatClampNeg))) ∨ (¬ isG n x ∧ r = -2)
theorem bl_uniq {K K' : (Nat → Int32) → Nat → Prop} {n x r1 r2 : Int32} {V : Nat → Int32 → Prop} (hV : ∀ k c d, V k c → V k d → c = d) (hK : ∀ w w' G, (∀ k : Nat, k < n.toNatClampNeg → w k = w' k) → (K w G ↔ K' w' G)) (h1 : bl_A K n V x r1) (h2 : bl_A K' n V x r2) : r1 = r2 := by
  rcases h1 with ⟨p1, w, v1, h1⟩ | ⟨p1, e1⟩ <;> rcases h2 with ⟨p2, w', v2, h2⟩ | ⟨p2, e2⟩
  · have e := hK w w' x.toNatClampNeg (fun k hk => hV k _ _ (v1 k hk) (v2 k hk))
    rcases h1 with ⟨e1, k1⟩ | ⟨e1, k1⟩ <;> rcases h2 with ⟨e2, k2⟩ | ⟨e2, k2⟩
    · rw [e1, e2]
    · exact absurd (e.mp k1) k2
    · exact absurd (e.mpr k2) k1
    · rw [e1, e2]
  · exact absurd p1 p2
  · exact absurd p2 p1
  · rw [e1, e2]
theorem bl_x {σ s u : SS} {x r : Int32} (hI : Inv σ) (hg : Gt σ s) (z : isG (ac_gi σ 12) x) (m1 : TB σ → TB s ∧ TBs s ∧ sh_W σ (ah (ac_gi σ 12)) (ac_ga s 25)) (m : ac_ga u 25 = ac_ga s 25 ∧ (TB s → TB u ∧ (isG (ac_gi s 12) x → rgS s → (r = 1 ↔ bkS s (ac_ga s 25) x.toNatClampNeg)))) (t : TB σ) (hr : r = 0 ∨ r = 1) : TB u ∧ bl_A (bkS σ) (ac_gi σ 12) (nS σ (ah (ac_gi σ 12)).toNatClampNeg) x r := by
  obtain ⟨t1, s1, w1⟩ := m1 t
  obtain ⟨e1, m⟩ := m
  obtain ⟨t2, m⟩ := m t1
  have h1 := m (by rw [hg.s.1.1]; exact z) (rg_at hI hg w1)
  rw [bk_at hg] at h1
  refine ⟨t2, Or.inl ⟨z, ac_ga s 25, sh_V hI w1, ?_⟩⟩
  rcases hr with e | e
  · exact Or.inr ⟨e, fun k => absurd (e.symm.trans (h1.mpr k)) (by decide)⟩
  · exact Or.inl ⟨e, h1.mp e⟩
/-! The model's side. -/
theorem Gd.m3 {σ u : SS} (g : Gd σ u) : ac_ga u 42 = ac_ga σ 42 ∧ ac_ga u 43 = ac_ga σ 43 ∧ ac_ga u 44 = ac_ga σ 44 ∧ ac_gi u 26 = ac_gi σ 26 := ⟨g.2.2 42 rfl, g.2.2 43 rfl, g.2.2 44 rfl, g.2.1 26 rfl⟩
abbrev foR (σ : SS) (G : Nat) (T : Nat → Int32) (y : Int) : Prop := fo_R (ac_ga σ 42) (ac_ga σ 43) (ac_ga σ 44) (ac_gi σ 26).toNatClampNeg G T y
def fb_W (σ : SS) (G : Nat) (b : Int32) (w : Nat → Int32) : Prop := b.toInt = WM σ G 6 63 ∧ ∀ k : Nat, k < 6 → nM σ G k (w k)
theorem fb_63 {σ : SS} {G : Nat} {T : Nat → Int32} (h : foR σ G T (-1)) : (T (63 : Int32).toNatClampNeg).toInt = WM σ G 6 63 := by
  have h1 := h 0 63 (by decide) (by decide) (by decide)
  rw [show 64 * 0 + 63 = (63 : Int32).toNatClampNeg from by decide] at h1
  exact h1
theorem WM_at {σ u : SS} (g : Gd σ u) (G d x : Nat) : WM u G d x = WM σ G d x := by
  obtain ⟨a, b, c, d⟩ := g.m3
  unfold WM
  rw [a, b, c, d]
theorem fbW_at {σ u : SS} {G : Nat} {b : Int32} {w : Nat → Int32} (g : Gd σ u) (h : fb_W u G b w) : fb_W σ G b w := by
  obtain ⟨a, c, d, e⟩ := g.m3
  unfold fb_W WM nM at h ⊢
  rw [a, c, d, e] at h
  exact h
theorem wb_x {S w : Nat → Int32} {x : Int32} (hw : iv (-1) 23 (w x.toNatClampNeg)) (c : (w x.toNatClampNeg) < 0) : (0 : Int32) = wv S (w x.toNatClampNeg) := by
  unfold wv
  rw [if_pos (by have := iv_lt c; have h0 : (0 : Int32).toInt = 0 := by decide
                 omega)]
theorem wb_y {S w : Nat → Int32} {x : Int32} (c : (0 : Int32) ≤ (w x.toNatClampNeg)) : S (w x.toNatClampNeg).toNatClampNeg = wv S (w x.toNatClampNeg) := by
  unfold wv
  rw [if_neg (by have := iv_le c; have h0 : (0 : Int32).toInt = 0 := by decide
                 omega)]
theorem isH_6 {n x : Int32} (hn : iv 0 6 n) (h : isH n x) : x.toNatClampNeg < 6 := by
  have := isH_N h
  have := iv_cl hn (by decide)
  have := hn.2
  omega
theorem mt_x {σ u1 u2 : SS} {x w : Int32} (hI : Inv σ) (g1 : Gd σ u1) (g2 : Gd u1 u2) (hx : isH (ac_gi σ 25) x) (m1 : fb_W σ (ah (ac_gi σ 25) &&& (((1 : Int32) <<< (x &&& 31)) ^^^ (-1 : Int32))).toNatClampNeg (ac_gi u1 27) (ac_ga u1 46)) (m2 : fb_W u1 (ah (ac_gi u1 25)).toNatClampNeg (ac_gi u2 27) (ac_ga u2 46)) (m3 : w = wv (ac_ga u2 44) (ac_ga u2 46 x.toNatClampNeg)) : tk_E (fun G => WM σ G 6 63) (ac_gi σ 25) (nM σ (ah (ac_gi σ 25)).toNatClampNeg) (ac_ga σ 44) x (ac_gi u1 27 - (ac_gi u2 27 - w)) := by
  have m2 := fbW_at g1 m2
  rw [g1.m.1.1] at m2
  rw [(g1.tr g2).m3.2.2.1] at m3
  refine ⟨_, m2.2 _ (isH_6 hI.mn hx), ?_⟩
  rw [m3]
  exact tk_ti m2.1 m1.1 (WM_bd hI _ 6 63) (WM_bd hI _ 6 63) (wv_iv hI.mS _)
theorem kl_my {w p S : Nat → Int32} {g v h r a : Int32} (hp : ∀ j, iv 0 100000 (p j)) (hS : ∀ s, iv 0 100000 (S s)) (hg : iv 0 63 g) (hh : iv 0 5 h) (e : v.toInt = kp w p S g.toNatClampNeg h.toNatClampNeg) (er : r = wv S (w h.toNatClampNeg)) (ha : (w h.toNatClampNeg < 0 ∧ a = 0) ∨ (0 ≤ w h.toNatClampNeg ∧ a = p h.toNatClampNeg)) (hb : ((g >>> (h &&& 31)) &&& 1) = 1) (hc : p h.toNatClampNeg < r) : ((v + a) + (r - p h.toNatClampNeg)).toInt = kp w p S g.toNatClampNeg (h + 1).toNatClampNeg := by
  have h0 : (0 : Int32).toInt = 0 := by decide
  have hc1 := iv_lt hc
  have hp1 := (hp h.toNatClampNeg).1
  rcases ha with ⟨c, -⟩ | ⟨c, ea⟩
  · exfalso
    have : r = 0 := by
      rw [er]
      unfold wv
      rw [if_pos (by have := iv_lt c; omega)]
    rw [this] at hc1
    omega
  · rw [ea]
    refine kl_g hp hS hh e (by have := iv_le c; omega) ?_
    rw [tb_bit1 hh (by decide), tb_cl hg] at hb
    rw [if_pos hb, ← er, ti_sub (by rw [er]; exact wv_iv hS _) (hp _) (by decide) (by decide)]
    omega
theorem kl_mn {w p S : Nat → Int32} {g v h r a : Int32} (hp : ∀ j, iv 0 100000 (p j)) (hS : ∀ s, iv 0 100000 (S s)) (hg : iv 0 63 g) (hh : iv 0 5 h) (e : v.toInt = kp w p S g.toNatClampNeg h.toNatClampNeg) (er : r = wv S (w h.toNatClampNeg)) (ha : (w h.toNatClampNeg < 0 ∧ a = 0) ∨ (0 ≤ w h.toNatClampNeg ∧ a = p h.toNatClampNeg)) (hb : ¬ ((g >>> (h &&& 31)) &&& 1) = 1 ∨ r ≤ p h.toNatClampNeg) : ((v + a) + (0 : Int32)).toInt = kp w p S g.toNatClampNeg (h + 1).toNatClampNeg := by
  have h0 : (0 : Int32).toInt = 0 := by decide
  rcases ha with ⟨c, ea⟩ | ⟨c, ea⟩
  · rw [ea]
    have e2 : (v + 0 + (0 : Int32)) = v := by
      apply Int32.toBitVec_inj.mp
      simp
    rw [e2]
    exact kl_z hh e (by have := iv_lt c; omega)
  · rw [ea]
    refine kl_g hp hS hh e (by have := iv_le c; omega) ?_
    rw [h0]
    split
    · rename_i hbit
      rcases hb with hb | hb
      · rw [tb_bit1 hh (by decide), tb_cl hg] at hb
        exact absurd hbit hb
      · have := iv_le hb
        rw [← er]
        omega
    · rfl
theorem mb_x {σ s : SS} {x v h : Int32} (hI : Inv σ) (g : Gd σ s) (hh : iv 0 6 h) (hle : h.toInt ≤ (ac_gi σ 25).toInt) (e : v.toInt = kp (ac_ga s 46) (ac_ga σ 41) (ac_ga σ 44) x.toNatClampNeg h.toNatClampNeg) (c : ac_gi s 25 ≤ h) : v.toInt = kp (ac_ga s 46) (ac_ga σ 41) (ac_ga σ 44) x.toNatClampNeg (ac_gi σ 25).toNatClampNeg := by
  rw [g.m.1.1] at c
  exact kl_x hI.mn hh hle e c
theorem ah_sh {n : Int32} (hn : iv 0 6 n) : (ah n).toInt = ((1 : Int32) <<< (n &&& 31)).toInt - 1 := by
  have h := iv_shl1 (a := 0) (b := 6) (y := n) hn (by decide)
  have h1 := ti_sub h (iv_c (c := 1) (x := (1 : Int32)) (by decide)) (by decide) (by decide)
  have h2 : (1 : Int32).toInt = 1 := by decide
  rw [h2] at h1
  exact h1
theorem isG_no {n x : Int32} (hn : iv 0 6 n) (h : isG n x) : 0 ≤ x.toInt ∧ x.toInt < ((1 : Int32) <<< (n &&& 31)).toInt := by
  have h1 := ah_sh hn
  have h2 := h.1
  have h3 := h.2
  omega
theorem isG_ys {n x : Int32} (hn : iv 0 6 n) (h : 0 ≤ x.toInt ∧ x.toInt < ((1 : Int32) <<< (n &&& 31)).toInt) : isG n x := by
  have h1 := ah_sh hn
  have h2 := h.1
  have h3 := h.2
  exact ⟨h2, by omega⟩
theorem k_6 {n : Int32} {k : Nat} (hn : iv 0 6 n) (h : k < n.toNatClampNeg) : k < 6 := by
  have := iv_cl hn (by decide)
  have := hn.2
  omega
theorem mbl_x {V : Nat → Int32 → Prop} {K : (Nat → Int32) → Nat → Prop} {n r : Int32} {x : Nat} (hn : iv 0 6 n) (m : ∃ w : Nat → Int32, (∀ k : Nat, k < 6 → V k (w k)) ∧ (r = 1 ↔ K w x)) (hr : r = 0 ∨ r = 1) : ∃ w : Nat → Int32, (∀ k : Nat, k < n.toNatClampNeg → V k (w k)) ∧ ((r = 1 ∧ K w x) ∨ (r = 0 ∧ ¬ K w x)) := by
  obtain ⟨w, hw, h⟩ := m
  refine ⟨w, fun k hk => hw k (k_6 hn hk), ?_⟩
  rcases hr with e | e
  · exact Or.inr ⟨e, fun z => absurd (e.symm.trans (h.mpr z)) (by decide)⟩
  · exact Or.inl ⟨e, h.mp e⟩
theorem bkM_at {σ s : SS} (g : Gd σ s) (w : Nat → Int32) (G : Nat) : bkM s w G ↔ bkM σ w G := by
  obtain ⟨⟨a, b⟩, c, d, e, f⟩ := g.m
  unfold bkM WM
  rw [a, b, c, d, e, f]
theorem nM_at {σ s : SS} (g : Gd σ s) (G k : Nat) (c : Int32) : nM s G k c ↔ nM σ G k c := by
  obtain ⟨⟨a, b⟩, c, d, e, f⟩ := g.m
  unfold nM
  rw [b, c, d, e]
theorem bkM_w {σ : SS} {w w' : Nat → Int32} {G : Nat} (h : ∀ k : Nat, k < (ac_gi σ 25).toNatClampNeg → w k = w' k) : bkM σ w G ↔ bkM σ w' G := by
  unfold bkM
  rw [kp_congr _ h]
theorem mal_w {σ s : SS} {y r : Int32} (hI : Inv σ) (hg : Gd σ s) (m : ∃ w : Nat → Int32, (∀ k : Nat, k < 6 → nM s (ah (ac_gi s 25)).toNatClampNeg k (w k)) ∧ (r = 1 ↔ bkM s w y.toNatClampNeg)) : ∃ w : Nat → Int32, (∀ k : Nat, k < (ac_gi σ 25).toNatClampNeg → nM σ (ah (ac_gi σ 25)).toNatClampNeg k (w k)) ∧ (r = 1 ↔ bkM σ w y.toNatClampNeg) := by
  obtain ⟨w, hw, h⟩ := m
  refine ⟨w, fun k hk => ?_, ?_⟩
  · have h1 := hw k (k_6 hI.mn hk)
    rw [nM_at hg, hg.m.1.1] at h1
    exact h1
  · rw [h, bkM_at hg]
abbrev mal_V (σ : SS) (w : Nat → Int32) : Prop := ∀ k : Nat, k < (ac_gi σ 25).toNatClampNeg → nM σ (ah (ac_gi σ 25)).toNatClampNeg k (w k)
theorem mal_s {σ s : SS} {y : Int32} {w : Nat → Int32} (hI : Inv σ) (hg : Gd σ s) (hy : iv 1 63 y) (E : al_I (bkM σ w) y) (hw : mal_V σ w) (m : ∃ w : Nat → Int32, (∀ k : Nat, k < 6 → nM s (ah (ac_gi s 25)).toNatClampNeg k (w k)) ∧ ((0 : Int32) = 1 ↔ bkM s w y.toNatClampNeg)) : al_I (bkM σ w) (y + (1 : Int32)) := by
  obtain ⟨w', v, h⟩ := mal_w hI hg m
  refine al_s hy E (fun z => ?_)
  rw [bkM_w (fun k hk => wn_uniq (hw k hk) (v k hk))] at z
  exact absurd (h.mpr z) (by decide)
theorem mal_y {σ s : SS} {y : Int32} (hI : Inv σ) (hg : Gd σ s) (hy : iv 1 63 y) (c : y ≤ ah (ac_gi s 25)) (E : ∀ w : Nat → Int32, mal_V σ w → al_I (bkM σ w) y) (m : ∃ w : Nat → Int32, (∀ k : Nat, k < 6 → nM s (ah (ac_gi s 25)).toNatClampNeg k (w k)) ∧ ((1 : Int32) = 1 ↔ bkM s w y.toNatClampNeg)) : al_E (bkM σ) (ac_gi σ 25) (nM σ (ah (ac_gi σ 25)).toNatClampNeg) y := by
  obtain ⟨w', v, h⟩ := mal_w hI hg m
  rw [hg.m.1.1] at c
  have g0 : isG (ac_gi σ 25) y := ⟨by have := hy.1; omega, iv_le c⟩
  exact ⟨w', v, Or.inr ⟨hy, (isG_lt hI.mn g0).1, h.mp rfl, E w' v⟩⟩
theorem mal_z {σ s : SS} {y : Int32} (hI : Inv σ) (hg : Gd σ s) (hy : iv 1 64 y) (c : ah (ac_gi s 25) < y) (E : ∀ w : Nat → Int32, mal_V σ w → al_I (bkM σ w) y) (ex : y = 1 ∨ ∃ w, mal_V σ w) : al_E (bkM σ) (ac_gi σ 25) (nM σ (ah (ac_gi σ 25)).toNatClampNeg) (-1) := by
  rw [hg.m.1.1] at c
  have ex2 : ∃ w, mal_V σ w := by
    rcases ex with e | e
    · refine ⟨fun _ => 0, fun k hk => ?_⟩
      exfalso
      have h1 := ah_ti hI.mn
      have h2 := iv_lt c
      have h3 : (ah (ac_gi σ 25)).toInt = ((2 ^ (ac_gi σ 25).toNatClampNeg : Nat) : Int) - 1 := h1.1
      have h4 : (1 : Int32).toInt = 1 := by decide
      rw [e, h4, h3] at h2
      have h5 : 2 ^ 1 ≤ 2 ^ (ac_gi σ 25).toNatClampNeg := Nat.pow_le_pow_right (by decide) (by omega)
      omega
    · exact e
  obtain ⟨w, v⟩ := ex2
  exact ⟨w, v, Or.inl ⟨rfl, al_z hI.mn hy (E w v) c⟩⟩
theorem mal_x {σ s : SS} {y : Int32} {r : Int32} (hI : Inv σ) (hg : Gd σ s) (m : ∃ w : Nat → Int32, (∀ k : Nat, k < 6 → nM s (ah (ac_gi s 25)).toNatClampNeg k (w k)) ∧ (r = 1 ↔ bkM s w y.toNatClampNeg)) : ∃ w, mal_V σ w := by
  obtain ⟨w', v, h⟩ := mal_w hI hg m
  exact ⟨w', v⟩
