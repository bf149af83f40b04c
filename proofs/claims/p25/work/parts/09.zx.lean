/-! Weeks: from ints to numbers; what the walks of both sides keep. -/
theorem cl_or {b d : Int} {x y : Int32} (hx : iv 0 b x) (hy : iv 0 d y) : (x ||| y).toNatClampNeg = x.toNatClampNeg ||| y.toNatClampNeg := by
  obtain ⟨n, e, e2, hn⟩ := nI_iv hx
  obtain ⟨m, f, f2, hm⟩ := nI_iv hy
  rw [e, f, nI_or, nI_clamp hn, nI_clamp hm, nI_clamp (Nat.or_lt_two_pow hn hm)]
theorem cl_and {b d : Int} {x y : Int32} (hx : iv 0 b x) (hy : iv 0 d y) : (x &&& y).toNatClampNeg = x.toNatClampNeg &&& y.toNatClampNeg := by
  obtain ⟨n, e, e2, hn⟩ := nI_iv hx
  obtain ⟨m, f, f2, hm⟩ := nI_iv hy
  rw [e, f, nI_and, nI_clamp hn, nI_clamp hm, nI_clamp (Nat.lt_of_le_of_lt Nat.and_le_left hn)]
theorem cl_m1 {b : Int} {x : Int32} (hx : iv 1 b x) : (x - 1).toNatClampNeg = x.toNatClampNeg - 1 ∧ 0 < x.toNatClampNeg := by
  have hb := (iv_any x).2
  have hx' : iv 1 2147483647 x := ⟨hx.1, hb⟩
  have h1 := ti_sub hx' (iv_c (c := 1) (x := (1 : Int32)) (by decide)) (by decide) (by decide)
  have h2 := iv_cl hx' (by decide)
  have h3 := iv_cl (iv_sub hx' (iv_c (c := 1) (x := (1 : Int32)) (by decide)) (by decide) (by decide)) (by decide)
  have h4 : (1 : Int32).toInt = 1 := by decide
  have := hx.1
  omega
theorem tb_cl {b : Int} {x : Int32} (hx : iv 0 b x) (j : Nat) : tb x j = x.toNatClampNeg.testBit j := by
  obtain ⟨n, e, e2, hn⟩ := nI_iv hx
  rw [e, nI_clamp hn]
  unfold tb
  rw [pk_tn (by omega)]
theorem tb_lt {x : Int32} {j : Nat} (h : tb x j = true) : j < 32 := by
  refine Classical.byContradiction (fun z => ?_)
  have h1 : x.toBitVec.toNat < 2 ^ 32 := x.toBitVec.isLt
  have h2 : x.toBitVec.toNat.testBit j = false := Nat.testBit_lt_two_pow (Nat.lt_of_lt_of_le h1 (Nat.pow_le_pow_right (by decide) (by omega)))
  have h3 : x.toBitVec.toNat.testBit j = true := h
  rw [h2] at h3
  cases h3
theorem tb_not (x : Int32) (j : Nat) : tb (x ^^^ (-1)) j = (decide (j < 32) && !tb x j) := by
  have h : x ^^^ (-1) = ~~~ x := by
    apply Int32.toBitVec_inj.mp
    show x.toBitVec ^^^ BitVec.allOnes 32 = ~~~ x.toBitVec
    exact BitVec.xor_allOnes
  rw [h]
  unfold tb
  show (~~~ x.toBitVec).toNat.testBit j = _
  rw [BitVec.testBit_toNat, BitVec.getLsbD_not, BitVec.testBit_toNat]
theorem sb_iff {b d : Int} {x y : Int32} (hx : iv 0 b x) (hy : iv 0 d y) : (x &&& (y ^^^ (-1))) = 0 ↔ x.toNatClampNeg &&& y.toNatClampNeg = x.toNatClampNeg := by
  constructor
  · intro h
    apply Nat.eq_of_testBit_eq
    intro j
    have hj : tb (x &&& (y ^^^ (-1))) j = tb 0 j := by rw [h]
    rw [tb_and, tb_not, tb_0] at hj
    rw [Nat.testBit_and, ← tb_cl hx, ← tb_cl hy]
    cases h1 : tb x j with
    | false => rfl
    | true =>
      have h3 := tb_lt h1
      cases h2 : tb y j with
      | true => rfl
      | false =>
        rw [h1, h2, decide_eq_true h3] at hj
        cases hj
  · intro h
    refine tb_ext (fun j => ?_)
    rw [tb_and, tb_not, tb_0]
    have hj : (x.toNatClampNeg &&& y.toNatClampNeg).testBit j = x.toNatClampNeg.testBit j := by rw [h]
    rw [Nat.testBit_and, ← tb_cl hx, ← tb_cl hy] at hj
    cases h1 : tb x j with
    | false => rfl
    | true =>
      rw [h1, Bool.true_and] at hj
      rw [hj]
      simp
theorem lf_eq {b d : Int} {x y : Int32} (hx : iv 0 b x) (hy : iv 0 d y) (h : x.toNatClampNeg &&& y.toNatClampNeg = x.toNatClampNeg) : (y &&& (x ^^^ (-1))).toNatClampNeg = y.toNatClampNeg ^^^ x.toNatClampNeg := by
  apply Nat.eq_of_testBit_eq
  intro j
  have hj : (x.toNatClampNeg &&& y.toNatClampNeg).testBit j = x.toNatClampNeg.testBit j := by rw [h]
  rw [Nat.testBit_and, ← tb_cl hx, ← tb_cl hy] at hj
  rw [← tb_cl (iv_andl hy), tb_and, tb_not, Nat.testBit_xor, ← tb_cl hx, ← tb_cl hy]
  cases h2 : tb y j with
  | false =>
    rw [h2, Bool.and_false] at hj
    rw [← hj]
    rfl
  | true =>
    rw [decide_eq_true (tb_lt h2)]
    cases h1 : tb x j <;> rfl
theorem an_self (x : Int32) : x &&& (x ^^^ (-1)) = 0 := by
  refine tb_ext (fun j => ?_)
  rw [tb_and, tb_not, tb_0]
  cases tb x j <;> simp
theorem on_cl {b : Int} {x : Int32} (hx : iv 0 b x) : on_f x 16 = on_f (nI x.toNatClampNeg) 16 := by
  rw [← iv_nI' hx (by decide)]
theorem bc_cl {x : Int32} (hx : iv 0 1023 x) : ac_bc x = on_f (nI x.toNatClampNeg) 16 := by
  obtain ⟨n, e, e2, hn⟩ := nI_iv hx
  rw [e, nI_clamp hn]
  exact bc_on n (by have := hx.2; omega)
theorem ti_min (x y : Int32) : (ac_min x y).toInt = min x.toInt y.toInt := by
  unfold ac_min
  split
  · rename_i h; have := iv_lt h; omega
  · rename_i h; have := iv_nlt h; omega
theorem ti_p1 {x : Int32} (hx : iv 0 1000 x) : (x + 1).toInt = x.toInt + 1 := by
  rw [ti_add hx (iv_c (c := 1) (x := (1 : Int32)) (by decide)) (by decide) (by decide)]
  rfl
theorem tm_iv (b a : Nat → Int32) : ∀ k : Nat, k ≤ 10 → iv 0 1023 (tm_f b a k)
  | 0, _ => show iv 0 1023 (0 : Int32) from ⟨by decide, by decide⟩
  | k + 1, hk => by
    have ih := tm_iv b a k (by omega)
    show iv 0 1023 (if b k = a k then tm_f b a k else tm_f b a k ||| ((1 : Int32) <<< (nI k &&& 31)))
    split
    · exact ih
    · rw [nI_shl1 (by omega)]
      have h1 : (2 : Nat) ^ k ≤ 2 ^ 9 := Nat.pow_le_pow_right (by decide) (by omega)
      exact iv_or 10 ih (iv_nI (b := 512) (by omega) (by omega)) (by decide) (by decide) (by decide)
/-- the least over submasks, downward -/
def wf_I (T : Nat → Int32) (m : Nat) (l k v s : Int32) : Prop := s.toNatClampNeg &&& l.toNatClampNeg = s.toNatClampNeg ∧ mnC T m l.toNatClampNeg k.toInt v.toInt s.toNatClampNeg
theorem wf_0 {T : Nat → Int32} {m : Nat} {l k : Int32} : wf_I T m l k 1000 l := by
  refine ⟨Nat.and_self _, ?_⟩
  have h : (1000 : Int32).toInt = 1000 := by decide
  rw [h]
  exact mnC_0
theorem wf_nx {l s : Int32} (hl : iv 0 1023 l) (hs : iv 1 1023 s) : ((s - 1) &&& l).toNatClampNeg = (s.toNatClampNeg - 1) &&& l.toNatClampNeg ∧ ((s - 1) &&& l).toNatClampNeg &&& l.toNatClampNeg = ((s - 1) &&& l).toNatClampNeg := by
  have h1 := iv_sub hs (iv_c (c := 1) (x := (1 : Int32)) (by decide)) (by decide) (by decide)
  have e : ((s - 1) &&& l).toNatClampNeg = (s.toNatClampNeg - 1) &&& l.toNatClampNeg := by
    rw [cl_and h1 hl, (cl_m1 hs).1]
  refine ⟨e, ?_⟩
  rw [e, Nat.and_assoc, Nat.and_self]
theorem wf_put {T : Nat → Int32} {m l k v w s : Int32} (hT : ∀ j, iv 0 1000 (T j)) (hm : iv 0 1023 m) (hl : iv 0 1023 l) (hs : iv 1 1023 s) (h : wf_I T m.toNatClampNeg l k v s) (hp : (on_f (nI s.toNatClampNeg) 16).toInt ≤ k.toInt) (hw : w.toInt = min v.toInt ((T (m ||| s).toNatClampNeg).toInt + 1)) : wf_I T m.toNatClampNeg l k w ((s - 1) &&& l) := by
  have hs0 : iv 0 1023 s := iv_wk hs (by decide) (by decide)
  have e := wf_nx hl hs
  refine ⟨e.2, ?_⟩
  rw [e.1, hw, cl_or hm hs0]
  exact mnC_hit h.2 (cl_m1 hs).2 h.1 hp
theorem wf_hit {T : Nat → Int32} {m l k v s r : Int32} (hT : ∀ j, iv 0 1000 (T j)) (hm : iv 0 1023 m) (hl : iv 0 1023 l) (hs : iv 1 1023 s) (h : wf_I T m.toNatClampNeg l k v s) (er : r = ac_bc s) (c : r ≤ k) : wf_I T m.toNatClampNeg l k (ac_min v (T (m ||| s).toNatClampNeg + 1)) ((s - 1) &&& l) :=
  wf_put hT hm hl hs h (by rw [← bc_cl (iv_wk hs (by decide) (by decide)), ← er]; exact iv_le c) (by rw [ti_min, ti_p1 (hT _)])
theorem wf_skip {T : Nat → Int32} {m : Nat} {l k v s : Int32} (hl : iv 0 1023 l) (hs : iv 1 1023 s) (h : wf_I T m l k v s) (hp : ¬ (on_f (nI s.toNatClampNeg) 16).toInt ≤ k.toInt) : wf_I T m l k v ((s - 1) &&& l) := by
  have e := wf_nx hl hs
  refine ⟨e.2, ?_⟩
  rw [e.1]
  exact mnC_miss h.2 (cl_m1 hs).2 h.1 hp
theorem wf_miss {T : Nat → Int32} {m : Nat} {l k v s r : Int32} (hl : iv 0 1023 l) (hs : iv 1 1023 s) (h : wf_I T m l k v s) (er : r = ac_bc s) (c : k < r) : wf_I T m l k v ((s - 1) &&& l) :=
  wf_skip hl hs h (by rw [← bc_cl (iv_wk hs (by decide) (by decide)), ← er]; have := iv_lt c; omega)
theorem cl_z {s : Int32} (hs : iv 0 1023 s) (c : s ≤ 0) : s.toNatClampNeg = 0 := by
  have h1 := iv_le c
  have h2 := iv_cl hs (by decide)
  have h3 : (0 : Int32).toInt = 0 := by decide
  have := hs.1
  omega
theorem wf_end {T : Nat → Int32} {m : Nat} {l k v s : Int32} (hs : iv 0 1023 s) (h : wf_I T m l k v s) (c : s ≤ 0) : mnC T m l.toNatClampNeg k.toInt v.toInt 0 := by
  have h1 := h.2
  rw [cl_z hs c] at h1
  exact h1
theorem wf_end2 {T : Nat → Int32} {m : Nat} {l k v s : Int32} (hs : iv 0 1023 s) (h : wf_I T m l k v s) (c : s ≤ 0) : mnC T m l.toNatClampNeg k.toInt (ac_min v 1000).toInt 0 := by
  have h1 := wf_end hs h c
  have h2 := h1.1
  have h3 : (1000 : Int32).toInt = 1000 := by decide
  have h4 : (ac_min v 1000).toInt = v.toInt := by rw [ti_min]; omega
  rw [h4]
  exact h1
/-- the first step, upward -/
def fs_I (T : Nat → Int32) (m : Nat) (l k y : Int32) : Prop := ∀ t : Nat, cnd k.toInt l.toNatClampNeg t → t < y.toNatClampNeg → ¬ hit T m t
theorem fs_1 {T : Nat → Int32} {m : Nat} {l k : Int32} : fs_I T m l k 1 := fun t hc ht => by
  have h : (1 : Int32).toNatClampNeg = 1 := by decide
  have := hc.1
  omega
theorem fs_n {T : Nat → Int32} {m : Nat} {l k y : Int32} (hy : iv 1 1023 y) (h : fs_I T m l k y) (c : cnd k.toInt l.toNatClampNeg y.toNatClampNeg → ¬ hit T m y.toNatClampNeg) : fs_I T m l k (y + 1) := fun t hc ht => by
  rw [iv_n1 hy (by decide) (by decide)] at ht
  by_cases e : t = y.toNatClampNeg
  · rw [e] at hc ⊢
    exact c hc
  · exact h t hc (by omega)
theorem fs_na {T : Nat → Int32} {m : Nat} {l k y : Int32} (hl : iv 0 1023 l) (hy : iv 1 1023 y) (h : fs_I T m l k y) (c : ¬ (y &&& (l ^^^ (-1))) = 0) : fs_I T m l k (y + 1) :=
  fs_n hy h (fun hc => absurd ((sb_iff (iv_wk hy (by decide) (by decide) : iv 0 1023 y) hl).mpr hc.2.1) c)
theorem fs_nb {T : Nat → Int32} {m : Nat} {l k y r : Int32} (hy : iv 1 1023 y) (h : fs_I T m l k y) (er : r = ac_bc y) (c : k < r) : fs_I T m l k (y + 1) :=
  fs_n hy h (fun hc => by
    have h1 := hc.2.2
    rw [← bc_cl (iv_wk hy (by decide) (by decide)), ← er] at h1
    have := iv_lt c
    omega)
theorem fs_ht {T : Nat → Int32} {m y : Int32} (hT : ∀ j, iv 0 1000 (T j)) (hm : iv 0 1023 m) (hy : iv 1 1023 y) : (T (m ||| y).toNatClampNeg + 1) = T m.toNatClampNeg ↔ hit T m.toNatClampNeg y.toNatClampNeg := by
  rw [cl_or hm (iv_wk hy (by decide) (by decide) : iv 0 1023 y)]
  unfold hit
  rw [← ti_p1 (hT _)]
  exact ⟨fun h => congrArg Int32.toInt h, fun h => Int32.toInt_inj.mp h⟩
theorem fs_nc {T : Nat → Int32} {m l k y : Int32} (hT : ∀ j, iv 0 1000 (T j)) (hm : iv 0 1023 m) (hy : iv 1 1023 y) (h : fs_I T m.toNatClampNeg l k y) (c : ¬ (T (m ||| y).toNatClampNeg + 1) = T m.toNatClampNeg) : fs_I T m.toNatClampNeg l k (y + 1) :=
  fs_n hy h (fun _ z => c ((fs_ht hT hm hy).mpr z))
theorem fs_y {T : Nat → Int32} {m l k y r : Int32} (hT : ∀ j, iv 0 1000 (T j)) (hm : iv 0 1023 m) (hl : iv 0 1023 l) (hy : iv 1 1023 y) (h : fs_I T m.toNatClampNeg l k y) (c1 : (y &&& (l ^^^ (-1))) = 0) (er : r = ac_bc y) (c2 : r ≤ k) (c3 : (T (m ||| y).toNatClampNeg + 1) = T m.toNatClampNeg) : fsC T m.toNatClampNeg l.toNatClampNeg k.toInt y.toNatClampNeg := by
  have hy0 : iv 0 1023 y := iv_wk hy (by decide) (by decide)
  exact Or.inr ⟨⟨(cl_m1 hy).2, (sb_iff hy0 hl).mp c1, by rw [← bc_cl hy0, ← er]; exact iv_le c2⟩, (fs_ht hT hm hy).mp c3, h⟩
theorem fs_z {T : Nat → Int32} {m : Nat} {l k y : Int32} (hl : iv 0 1023 l) (hy : iv 1 1024 y) (h : fs_I T m l k y) (c : l < y) : fsC T m l.toNatClampNeg k.toInt (0 : Int32).toNatClampNeg := by
  refine Or.inl ⟨by decide, fun s hc => h s hc ?_⟩
  have h1 : s &&& l.toNatClampNeg ≤ l.toNatClampNeg := Nat.and_le_right
  rw [hc.2.1] at h1
  have h2 := iv_lt c
  have h3 := iv_cl hl (by decide)
  have h4 := iv_cl hy (by decide)
  omega
/-- the table, downward -/
def wq (pr b a : Nat → Int32) (n : Int32) (m : Nat) : Prop := qt pr b a (nI m) n.toNatClampNeg
def fw_I (pr b a : Nat → Int32) (n al k y : Int32) (T : Nat → Int32) : Prop := ∀ m : Nat, m &&& al.toNatClampNeg = m → y.toInt < (m : Int) → ent (wq pr b a n) T al.toNatClampNeg k.toInt m
theorem fw_0 {pr b a : Nat → Int32} {n al k : Int32} {T : Nat → Int32} (hal : iv 0 1023 al) : fw_I pr b a n al k al T := fun m hm hlt => by
  have h1 : m &&& al.toNatClampNeg ≤ al.toNatClampNeg := Nat.and_le_right
  rw [hm] at h1
  have h2 := iv_cl hal (by decide)
  omega
theorem cl_d1 {y : Int32} (hy : iv 0 1023 y) : (y + (-1)).toInt = (y.toNatClampNeg : Int) - 1 := by
  have h1 := ti_add hy (iv_c (c := -1) (x := (-1 : Int32)) (by decide)) (by decide) (by decide)
  have h2 := iv_cl hy (by decide)
  have h3 : (-1 : Int32).toInt = -1 := by decide
  omega
theorem fw_s {pr b a : Nat → Int32} {n al k y : Int32} {T : Nat → Int32} (hal : iv 0 1023 al) (hy : iv 0 1023 y) (h : fw_I pr b a n al k y T) (c : ¬ (y &&& (al ^^^ (-1))) = 0) : fw_I pr b a n al k (y + (-1)) T := fun m hm hlt => by
  rw [cl_d1 hy] at hlt
  have h2 := iv_cl hy (by decide)
  by_cases e : m = y.toNatClampNeg
  · rw [e] at hm
    exact absurd ((sb_iff hy hal).mpr hm) c
  · exact h m hm (by omega)
theorem ent_upd {Q : Nat → Prop} {T : Nat → Int32} {al y m : Nat} {k : Int} {v : Int32} (hlt : y < m) (h : ent Q T al k m) (hm : m &&& al = m) : ent Q (upd T y v) al k m := by
  have e1 : upd T y v m = T m := if_neg (by omega)
  have e2 : ∀ s, cnd k (al ^^^ m) s → upd T y v (m ||| s) = T (m ||| s) := fun s hc => if_neg (by have := (or_gt hc.1 hc.2.1 hm).1; omega)
  unfold ent
  rw [e1]
  rcases h with ⟨q, e | ⟨ne, h1, h2, h3⟩⟩ | e
  · exact Or.inl ⟨q, Or.inl e⟩
  · refine Or.inl ⟨q, Or.inr ⟨ne, h1, fun s hc hl => by rw [e2 s hc]; exact h2 s hc hl, ?_⟩⟩
    rcases h3 with h3 | ⟨s, hc, hl, h3⟩
    · exact Or.inl h3
    · exact Or.inr ⟨s, hc, hl, by rw [e2 s hc]; exact h3⟩
  · exact Or.inr e
theorem fw_p {pr b a : Nat → Int32} {n al k y v : Int32} {T : Nat → Int32} (hy : iv 0 1023 y) (h : fw_I pr b a n al k y T) (hs : y.toNatClampNeg &&& al.toNatClampNeg = y.toNatClampNeg) (hv : ent (wq pr b a n) (upd T y.toNatClampNeg v) al.toNatClampNeg k.toInt y.toNatClampNeg) : fw_I pr b a n al k (y + (-1)) (upd T y.toNatClampNeg v) := fun m hm hlt => by
  rw [cl_d1 hy] at hlt
  have h2 := iv_cl hy (by decide)
  by_cases e : m = y.toNatClampNeg
  · rw [e]; exact hv
  · exact ent_upd (by omega) (h m hm (by omega)) hm
theorem wq_y {pr b a : Nat → Int32} {n y : Int32} (hy : iv 0 1023 y) : wq pr b a n y.toNatClampNeg ↔ qt pr b a y n.toNatClampNeg := by
  unfold wq
  rw [← iv_nI' hy (by decide)]
theorem fw_n {pr b a : Nat → Int32} {n al k y : Int32} {T : Nat → Int32} (hal : iv 0 1023 al) (hy : iv 0 1023 y) (h : fw_I pr b a n al k y T) (c : (y &&& (al ^^^ (-1))) = 0) (hq : ¬ qt pr b a y n.toNatClampNeg) : fw_I pr b a n al k (y + (-1)) (upd T y.toNatClampNeg 1000) := by
  refine fw_p hy h ((sb_iff hy hal).mp c) (Or.inr ⟨fun z => hq ((wq_y hy).mp z), ?_⟩)
  rw [show upd T y.toNatClampNeg 1000 y.toNatClampNeg = 1000 from if_pos rfl]
  decide
theorem fw_w {pr b a : Nat → Int32} {n al k y v : Int32} {T : Nat → Int32} (hal : iv 0 1023 al) (hy : iv 0 1023 y) (h : fw_I pr b a n al k y T) (c : (y &&& (al ^^^ (-1))) = 0) (hq : qt pr b a y n.toNatClampNeg) (hv : (y = al ∧ v = 0) ∨ (¬ y = al ∧ mnC T y.toNatClampNeg (al &&& (y ^^^ (-1))).toNatClampNeg k.toInt v.toInt 0)) : fw_I pr b a n al k (y + (-1)) (upd T y.toNatClampNeg v) := by
  have hs := (sb_iff hy hal).mp c
  have e1 : upd T y.toNatClampNeg v y.toNatClampNeg = v := if_pos rfl
  refine fw_p hy h hs (Or.inl ⟨(wq_y hy).mpr hq, ?_⟩)
  rw [e1]
  rcases hv with ⟨e, hv⟩ | ⟨ne, hv⟩
  · exact Or.inl ⟨by rw [e], by rw [hv]; decide⟩
  · rw [lf_eq hy hal hs] at hv
    have e2 : ∀ s, cnd k.toInt (al.toNatClampNeg ^^^ y.toNatClampNeg) s → upd T y.toNatClampNeg v (y.toNatClampNeg ||| s) = T (y.toNatClampNeg ||| s) := fun s hc => if_neg (by have := (or_gt hc.1 hc.2.1 hs).1; omega)
    obtain ⟨h1, h2, h3⟩ := hv
    refine Or.inr ⟨fun z => ne ?_, h1, fun s hc hl => by rw [e2 s hc]; exact h2 s hc hl, ?_⟩
    · rw [iv_nI' hy (by decide), iv_nI' hal (by decide), z]
    · rcases h3 with h3 | ⟨s, hc, hl, h3⟩
      · exact Or.inl h3
      · exact Or.inr ⟨s, hc, hl, by rw [e2 s hc]; exact h3⟩
def wk_T (pr b a : Nat → Int32) (n k : Int32) (T : Nat → Int32) : Prop := ∀ m : Nat, m &&& (tm_f b a n.toNatClampNeg).toNatClampNeg = m → ent (wq pr b a n) T (tm_f b a n.toNatClampNeg).toNatClampNeg k.toInt m
theorem fw_x {pr b a : Nat → Int32} {n al k y : Int32} {T : Nat → Int32} (h : fw_I pr b a n al k y T) (c : y < 0) : ∀ m : Nat, m &&& al.toNatClampNeg = m → ent (wq pr b a n) T al.toNatClampNeg k.toInt m := fun m hm => h m hm (by
  have h1 := iv_lt c
  have h2 : (0 : Int32).toInt = 0 := by decide
  omega)
theorem fw_t {pr b a : Nat → Int32} {n al k : Int32} {T : Nat → Int32} (h : ∀ m : Nat, m &&& al.toNatClampNeg = m → ent (wq pr b a n) T al.toNatClampNeg k.toInt m) (e : al = tm_f b a n.toNatClampNeg) : wk_T pr b a n k T := by
  unfold wk_T
  rw [← e]
  exact h
/-- the model's loop within: all of them need no step -/
def ff_I (T : Nat → Int32) (al y l k v s : Int32) : Prop := (y = al ∧ v = 0 ∧ s = 0) ∨ (¬ y = al ∧ wf_I T y.toNatClampNeg l k v s)
theorem ff_0 {T : Nat → Int32} {al y k : Int32} (e : y = al) : ff_I T al y (al &&& (y ^^^ (-1))) k 0 (al &&& (y ^^^ (-1))) := Or.inl ⟨e, rfl, by rw [e]; exact an_self al⟩
theorem ff_1 {T : Nat → Int32} {al y l k : Int32} (e : ¬ y = al) : ff_I T al y l k 1000 l := Or.inr ⟨e, wf_0⟩
theorem ff_ne {T : Nat → Int32} {al y l k v s : Int32} (hs : iv 1 1023 s) (h : ff_I T al y l k v s) : ¬ y = al ∧ wf_I T y.toNatClampNeg l k v s := by
  rcases h with ⟨-, -, e⟩ | h
  · have h1 := hs.1
    rw [e] at h1
    exact absurd h1 (by decide)
  · exact h
theorem ff_a {T : Nat → Int32} {al y l k v s r : Int32} (hT : ∀ j, iv 0 1000 (T j)) (hy : iv 0 1023 y) (hl : iv 0 1023 l) (hs : iv 1 1023 s) (h : ff_I T al y l k v s) (er : r = on_f s 16) (c : r ≤ k) (c2 : T (y ||| s).toNatClampNeg + 1 < v) : ff_I T al y l k (T (y ||| s).toNatClampNeg + 1) ((s - 1) &&& l) := by
  obtain ⟨ne, h⟩ := ff_ne hs h
  refine Or.inr ⟨ne, wf_put hT hy hl hs h (by rw [← on_cl (iv_wk hs (by decide) (by decide) : iv 0 1023 s), ← er]; exact iv_le c) ?_⟩
  have h1 := iv_lt c2
  rw [ti_p1 (hT _)] at h1 ⊢
  omega
theorem ff_b {T : Nat → Int32} {al y l k v s r : Int32} (hT : ∀ j, iv 0 1000 (T j)) (hy : iv 0 1023 y) (hl : iv 0 1023 l) (hs : iv 1 1023 s) (h : ff_I T al y l k v s) (er : r = on_f s 16) (c : r ≤ k) (c2 : v ≤ T (y ||| s).toNatClampNeg + 1) : ff_I T al y l k v ((s - 1) &&& l) := by
  obtain ⟨ne, h⟩ := ff_ne hs h
  refine Or.inr ⟨ne, wf_put hT hy hl hs h (by rw [← on_cl (iv_wk hs (by decide) (by decide) : iv 0 1023 s), ← er]; exact iv_le c) ?_⟩
  have h1 := iv_le c2
  rw [ti_p1 (hT _)] at h1
  omega
theorem ff_c {T : Nat → Int32} {al y l k v s r : Int32} (hl : iv 0 1023 l) (hs : iv 1 1023 s) (h : ff_I T al y l k v s) (er : r = on_f s 16) (c : k < r) : ff_I T al y l k v ((s - 1) &&& l) := by
  obtain ⟨ne, h⟩ := ff_ne hs h
  exact Or.inr ⟨ne, wf_skip hl hs h (by rw [← on_cl (iv_wk hs (by decide) (by decide) : iv 0 1023 s), ← er]; have := iv_lt c; omega)⟩
theorem ff_x {T : Nat → Int32} {al y l k v s : Int32} (hs : iv 0 1023 s) (h : ff_I T al y l k v s) (el : l = al &&& (y ^^^ (-1))) (c : s ≤ 0) : (y = al ∧ v = 0) ∨ (¬ y = al ∧ mnC T y.toNatClampNeg (al &&& (y ^^^ (-1))).toNatClampNeg k.toInt v.toInt 0) := by
  rcases h with ⟨e, e2, -⟩ | ⟨ne, h⟩
  · exact Or.inl ⟨e, e2⟩
  · rw [← el]
    exact Or.inr ⟨ne, wf_end hs h c⟩
/-- the run of the weeks -/
def SR (T : Nat → Int32) (al : Nat) (k : Int) (i m s : Nat) : Prop := (i = 0 ∧ m = 0 ∧ s = 0) ∨ ∃ j a, i = j + 1 ∧ RS T al k j a ∧ fsC T a (al ^^^ a) k s ∧ m = a ||| s
theorem SR_RS {T : Nat → Int32} {al i m s : Nat} {k : Int} (h : SR T al k i m s) : RS T al k i m := by
  rcases h with ⟨e1, e2, -⟩ | ⟨j, a, e, h1, h2, h3⟩
  · rw [e1]; exact e2
  · rw [e]; exact ⟨a, s, h1, h2, h3⟩
theorem fs_or {T : Nat → Int32} {al a s : Nat} {k : Int} (ha : a &&& al = a) (h : fsC T a (al ^^^ a) k s) : (a ||| s) &&& al = a ||| s := by
  rcases h with ⟨e, -⟩ | ⟨hc, -, -⟩
  · rw [e, Nat.or_zero]; exact ha
  · exact (or_gt hc.1 hc.2.1 ha).2
def mv_I (T : Nat → Int32) (al k i m s : Int32) : Prop := SR T al.toNatClampNeg k.toInt i.toNatClampNeg m.toNatClampNeg s.toNatClampNeg ∧ m.toNatClampNeg &&& al.toNatClampNeg = m.toNatClampNeg
theorem mv_0 {T : Nat → Int32} {al k : Int32} : mv_I T al k 0 0 0 := ⟨Or.inl ⟨by decide, by decide, by decide⟩, by
  rw [show (0 : Int32).toNatClampNeg = 0 from by decide]
  exact Nat.zero_and _⟩
theorem mv_s {T : Nat → Int32} {al k i m s r : Int32} (hal : iv 0 1023 al) (hm : iv 0 1023 m) (hi : iv 0 9 i) (hr : iv 0 1023 r) (h : mv_I T al k i m s) (hf : fsC T m.toNatClampNeg (al &&& (m ^^^ (-1))).toNatClampNeg k.toInt r.toNatClampNeg) : mv_I T al k (i + 1) (m ||| r) r := by
  rw [lf_eq hm hal h.2] at hf
  refine ⟨Or.inr ⟨i.toNatClampNeg, m.toNatClampNeg, iv_n1 hi (by decide) (by decide), SR_RS h.1, hf, cl_or hm hr⟩, ?_⟩
  rw [cl_or hm hr]
  exact fs_or h.2 hf
def mv_E (T : Nat → Int32) (al : Nat) (k w r : Int32) : Prop := ∃ i m : Nat, ((i : Int) = w.toInt + 1 ∨ (i = 10 ∧ 10 ≤ w.toInt + 1)) ∧ SR T al k.toInt i m r.toNatClampNeg
theorem mv_x1 {T : Nat → Int32} {al k i m s w : Int32} (hi : iv 0 10 i) (h : mv_I T al k i m s) (hw : i.toInt ≤ w.toInt + 1) (c : w < i) : mv_E T al.toNatClampNeg k w s := by
  have h1 := iv_lt c
  have h2 := iv_cl hi (by decide)
  exact ⟨_, _, Or.inl (by omega), h.1⟩
theorem mv_x2 {T : Nat → Int32} {al k i m s w : Int32} (hi : iv 0 10 i) (h : mv_I T al k i m s) (hw : i.toInt ≤ w.toInt + 1) (c : (10 : Int32) ≤ i) : mv_E T al.toNatClampNeg k w s := by
  have h1 := iv_le c
  have h2 := iv_cl hi (by decide)
  have h3 : (10 : Int32).toInt = 10 := by decide
  have := hi.2
  exact ⟨_, _, Or.inr ⟨by omega, by omega⟩, h.1⟩
def wk_R (T : Nat → Int32) (al : Nat) (k w r : Int32) : Prop :=
  ((T 0).toInt = 1000 ∧ r = -5) ∨ ((T 0).toInt < 1000 ∧ w.toInt = -1 ∧ r = T 0) ∨ ((T 0).toInt < 1000 ∧ 0 ≤ w.toInt ∧ w.toInt < (T 0).toInt ∧ iv 0 1023 r ∧ ∃ m, RS T al k.toInt w.toNatClampNeg m ∧ fsC T m (al ^^^ m) k.toInt r.toNatClampNeg) ∨ ((T 0).toInt < 1000 ∧ 0 ≤ w.toInt ∧ (T 0).toInt ≤ w.toInt ∧ r = -1)
def wk_P (k w : Int32) : Prop := (1 ≤ k.toInt ∧ k.toInt ≤ 10) ∧ -1 ≤ w.toInt
def wk_A (pr b a : Nat → Int32) (n k w r : Int32) : Prop :=
  (¬ wk_P k w ∧ r = -10) ∨ (wk_P k w ∧ ∃ T : Nat → Int32, (∀ j, iv 0 1000 (T j)) ∧ wk_T pr b a n k T ∧ wk_R T (tm_f b a n.toNatClampNeg).toNatClampNeg k w r)
theorem al_lt {b a : Nat → Int32} {n : Int32} (hn : iv 0 10 n) : (tm_f b a n.toNatClampNeg).toNatClampNeg < 1024 := by
  have h1 := iv_cl hn (by decide)
  have h2 := tm_iv b a n.toNatClampNeg (by have := hn.2; omega)
  have h3 := iv_cl h2 (by decide)
  have := h2.2
  omega
theorem wk_c3 {pr b a : Nat → Int32} {n k w r : Int32} {T : Nat → Int32} (hn : iv 0 10 n) (hT : ∀ j, iv 0 1000 (T j)) (h : wk_T pr b a n k T) (h0 : (T 0).toInt < 1000) (hw : 0 ≤ w.toInt) (hlt : w.toInt < (T 0).toInt) (hm : mv_E T (tm_f b a n.toNatClampNeg).toNatClampNeg k w r) : ∃ m, RS T (tm_f b a n.toNatClampNeg).toNatClampNeg k.toInt w.toNatClampNeg m ∧ fsC T m ((tm_f b a n.toNatClampNeg).toNatClampNeg ^^^ m) k.toInt r.toNatClampNeg := by
  obtain ⟨i, m, hi, hs⟩ := hm
  have hcl : (w.toNatClampNeg : Int) = w.toInt := iv_cl (a := 0) (b := 2147483647) ⟨hw, (iv_any w).2⟩ (by decide)
  have hi2 : i = w.toNatClampNeg + 1 := by
    rcases hi with e | ⟨e, e2⟩
    · omega
    · have h10 := RS_ten (al_lt hn) h (fun j => (hT j).1) h0 (by rw [← e]; exact SR_RS hs)
      omega
  rcases hs with ⟨e, -, -⟩ | ⟨j, a', e, h1, h2, h3⟩
  · omega
  · have ej : j = w.toNatClampNeg := by omega
    rw [ej] at h1
    exact ⟨a', h1, h2⟩
theorem RS_uniq {Q : Nat → Prop} {T U : Nat → Int32} {al : Nat} {k : Int} (h : ∀ m, m &&& al = m → ent Q T al k m) (g : ∀ m, m &&& al = m → ent Q U al k m) : ∀ (i m m' : Nat), RS T al k i m → RS U al k i m' → m = m' ∧ m &&& al = m := by
  have eq : ∀ m, m &&& al = m → (T m).toInt = (U m).toInt := fun m hm => tab_uniq h g (al - m) m (Nat.le_refl _) hm
  intro i
  induction i with
  | zero =>
    intro m m' h1 h2
    have e1 : m = 0 := h1
    have e2 : m' = 0 := h2
    subst e1; subst e2
    exact ⟨rfl, Nat.zero_and _⟩
  | succ i ih =>
    intro m m' h1 h2
    obtain ⟨x, s, r1, f1, e1⟩ := h1
    obtain ⟨y, t, r2, f2, e2⟩ := h2
    obtain ⟨exy, hx⟩ := ih x y r1 r2
    subst exy
    have es : s = t := fs_uniq f1 f2 (fun z hz => by
      unfold hit
      rw [eq x hx, eq (x ||| z) (or_gt hz.1 hz.2.1 hx).2])
    subst es
    rw [e1, e2]
    exact ⟨rfl, fs_or hx f1⟩
theorem wk_uniq {pr b a : Nat → Int32} {n k w r1 r2 : Int32} (h1 : wk_A pr b a n k w r1) (h2 : wk_A pr b a n k w r2) : r1 = r2 := by
  rcases h1 with ⟨p1, e1⟩ | ⟨p1, T, hT, tT, h1⟩ <;> rcases h2 with ⟨p2, e2⟩ | ⟨p2, U, hU, tU, h2⟩
  · rw [e1, e2]
  · exact absurd p2 p1
  · exact absurd p1 p2
  · have eq : ∀ m, m &&& (tm_f b a n.toNatClampNeg).toNatClampNeg = m → (T m).toInt = (U m).toInt := fun m hm => tab_uniq tT tU _ m (Nat.le_refl _) hm
    have e0 := eq 0 (Nat.zero_and _)
    rcases h1 with ⟨a1, e1⟩ | ⟨a1, b1, e1⟩ | ⟨a1, b1, c1, i1, m1, r1', f1⟩ | ⟨a1, b1, c1, e1⟩ <;> rcases h2 with ⟨a2, e2⟩ | ⟨a2, b2, e2⟩ | ⟨a2, b2, c2, i2, m2, r2', f2⟩ | ⟨a2, b2, c2, e2⟩ <;> first
      | (exfalso; omega)
      | (rw [e1, e2]; done)
      | (rw [e1, e2]; exact Int32.toInt_inj.mp e0)
      | skip
    obtain ⟨em, hm⟩ := RS_uniq tT tU _ _ _ r1' r2'
    subst em
    have es := fs_uniq f1 f2 (fun z hz => by
      unfold hit
      rw [eq m1 hm, eq (m1 ||| z) (or_gt hz.1 hz.2.1 hm).2])
    rw [iv_nI' i1 (by decide), iv_nI' i2 (by decide), es]
/-- the model's look for the next set -/
def nx_I (T : Nat → Int32) (m : Nat) (l k r s : Int32) : Prop := s.toNatClampNeg &&& l.toNatClampNeg = s.toNatClampNeg ∧ nxC T m l.toNatClampNeg k.toInt r.toNatClampNeg s.toNatClampNeg
theorem nxI_0 {T : Nat → Int32} {m : Nat} {l k : Int32} : nx_I T m l k 0 l := by
  refine ⟨Nat.and_self _, ?_⟩
  rw [show (0 : Int32).toNatClampNeg = 0 from by decide]
  exact nx_0
theorem nxI_h {T : Nat → Int32} {m l k r s c : Int32} (hT : ∀ j, iv 0 1000 (T j)) (hm : iv 0 1023 m) (hl : iv 0 1023 l) (hs : iv 1 1023 s) (h : nx_I T m.toNatClampNeg l k r s) (er : c = on_f s 16) (c1 : c ≤ k) (c2 : (T (m ||| s).toNatClampNeg + 1) = T m.toNatClampNeg) : nx_I T m.toNatClampNeg l k s ((s - 1) &&& l) := by
  have e := wf_nx hl hs
  refine ⟨e.2, ?_⟩
  rw [e.1]
  exact nx_hit (r := 0) (cl_m1 hs).2 h.1 (by rw [← on_cl (iv_wk hs (by decide) (by decide) : iv 0 1023 s), ← er]; exact iv_le c1) ((fs_ht hT hm hs).mp c2)
theorem nxI_a {T : Nat → Int32} {m : Nat} {l k r s c : Int32} (hl : iv 0 1023 l) (hs : iv 1 1023 s) (h : nx_I T m l k r s) (er : c = on_f s 16) (c1 : k < c) : nx_I T m l k r ((s - 1) &&& l) := by
  have e := wf_nx hl hs
  refine ⟨e.2, ?_⟩
  rw [e.1]
  refine nx_miss h.2 (cl_m1 hs).2 h.1 (fun z => ?_)
  have h1 := z.1
  rw [← on_cl (iv_wk hs (by decide) (by decide) : iv 0 1023 s), ← er] at h1
  have := iv_lt c1
  omega
theorem nxI_b {T : Nat → Int32} {m l k r s : Int32} (hT : ∀ j, iv 0 1000 (T j)) (hm : iv 0 1023 m) (hl : iv 0 1023 l) (hs : iv 1 1023 s) (h : nx_I T m.toNatClampNeg l k r s) (c2 : ¬ (T (m ||| s).toNatClampNeg + 1) = T m.toNatClampNeg) : nx_I T m.toNatClampNeg l k r ((s - 1) &&& l) := by
  have e := wf_nx hl hs
  refine ⟨e.2, ?_⟩
  rw [e.1]
  exact nx_miss h.2 (cl_m1 hs).2 h.1 (fun z => c2 ((fs_ht hT hm hs).mpr z.2))
/-- the model's run: where it stands behind i weeks -/
def rn_I (T : Nat → Int32) (al k i m : Int32) : Prop := RS T al.toNatClampNeg k.toInt i.toNatClampNeg m.toNatClampNeg ∧ (i.toNatClampNeg : Int) ≤ (T 0).toInt
theorem rn_0 {T : Nat → Int32} {al k : Int32} (hT : ∀ j, iv 0 1000 (T j)) : rn_I T al k 0 0 := by
  refine ⟨?_, ?_⟩
  · rw [show (0 : Int32).toNatClampNeg = 0 from by decide]
    rfl
  · rw [show (0 : Int32).toNatClampNeg = 0 from by decide]
    exact (hT 0).1
theorem rn_f {pr b a : Nat → Int32} {n al k i m r s l : Int32} {T : Nat → Int32} (hT : ∀ j, iv 0 1000 (T j)) (hal : iv 0 1023 al) (hm : iv 0 1023 m) (hs : iv 0 1023 s) (h : wk_T pr b a n k T) (ea : al = tm_f b a n.toNatClampNeg) (h0 : (T 0).toInt < 1000) (hr : rn_I T al k i m) (hne : ¬ m = al) (el : l = al &&& (m ^^^ (-1))) (hn : nx_I T m.toNatClampNeg l k r s) (c : s ≤ 0) : fsC T m.toNatClampNeg (al.toNatClampNeg ^^^ m.toNatClampNeg) k.toInt r.toNatClampNeg ∧ (i.toNatClampNeg : Int) < (T 0).toInt := by
  have ht : ∀ m : Nat, m &&& al.toNatClampNeg = m → ent (wq pr b a n) T al.toNatClampNeg k.toInt m := by
    rw [ea]; exact h
  obtain ⟨g1, g2⟩ := RS_inv ht (fun j => (hT j).1) h0 _ _ hr.2 hr.1
  have h1 := hn.2
  rw [cl_z hs c, el, lf_eq hm hal g1] at h1
  refine ⟨nx_end h1, ?_⟩
  have h2 := hr.2
  by_cases z : (T m.toNatClampNeg).toInt = 0
  · have e := tab_zero (ht _ g1) (fun j => (hT j).1) z
    exact absurd (by rw [iv_nI' hm (by decide), iv_nI' hal (by decide), e]) hne
  · have := (hT m.toNatClampNeg).1
    omega
theorem rn_s {T : Nat → Int32} {al k i m r : Int32} (hm : iv 0 1023 m) (hr : iv 0 1023 r) (hi : iv 0 2147483646 i) (h : rn_I T al k i m) (hf : fsC T m.toNatClampNeg (al.toNatClampNeg ^^^ m.toNatClampNeg) k.toInt r.toNatClampNeg ∧ (i.toNatClampNeg : Int) < (T 0).toInt) : rn_I T al k (i + 1) (m ||| r) := by
  unfold rn_I
  rw [iv_n1 hi (by decide) (by decide), cl_or hm hr]
  exact ⟨⟨_, _, h.1, hf.1, rfl⟩, by have := hf.2; omega⟩
theorem rn_x {pr b a : Nat → Int32} {n al k i m w : Int32} {T : Nat → Int32} (hT : ∀ j, iv 0 1000 (T j)) (h : wk_T pr b a n k T) (ea : al = tm_f b a n.toNatClampNeg) (h0 : (T 0).toInt < 1000) (hi : iv 0 2147483647 i) (hr : rn_I T al k i m) (e : m = al) (hw : i.toInt ≤ w.toInt) : 0 ≤ w.toInt ∧ (T 0).toInt ≤ w.toInt := by
  have ht : ∀ m : Nat, m &&& al.toNatClampNeg = m → ent (wq pr b a n) T al.toNatClampNeg k.toInt m := by
    rw [ea]; exact h
  obtain ⟨g1, g2⟩ := RS_inv ht (fun j => (hT j).1) h0 _ _ hr.2 hr.1
  have hcl := iv_cl hi (by decide)
  have hi0 := hi.1
  rw [e] at g1 g2
  rcases ht _ g1 with ⟨q, ⟨-, e1⟩ | ⟨ne, -⟩⟩ | ⟨-, e1⟩
  · omega
  · exact absurd rfl ne
  · omega
