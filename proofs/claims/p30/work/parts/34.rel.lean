/-! What is told is the same on both sides. -/
def Rel (σ : SS) : Prop :=
  (ac_gi σ 0 = ac_gi σ 15 ∧ ac_gi σ 1 = ac_gi σ 16 ∧ ac_gi σ 2 = ac_gi σ 17 ∧ ac_gi σ 5 = ac_gi σ 20 ∧ ac_gi σ 6 = ac_gi σ 21 ∧ ac_gi σ 12 = ac_gi σ 25 ∧ ac_gi σ 13 = ac_gi σ 26) ∧
  (ac_ga σ 9 = ac_ga σ 31 ∧ ac_ga σ 17 = ac_ga σ 37 ∧ ac_ga σ 18 = ac_ga σ 38 ∧ ac_ga σ 21 = ac_ga σ 42 ∧ ac_ga σ 22 = ac_ga σ 43 ∧ ac_ga σ 23 = ac_ga σ 44 ∧ ac_ga σ 24 = ac_ga σ 41 ∧ ac_ga σ 27 = ac_ga σ 48 ∧ ac_ga σ 28 = ac_ga σ 49 ∧ ac_ga σ 7 = ac_ga σ 51) ∧
  (∀ j : Nat, j < 10 → (((ac_gi σ 4 >>> (nI j &&& 31)) &&& 1) = 0 ↔ ac_ga σ 36 j = 0)) ∧
  ∀ j : Nat, tb (ac_gi σ 4) j = true → (j : Int) < (ac_gi σ 0).toInt
def Ok (σ : SS) : Prop := Inv σ ∧ Rel σ
theorem Ok.gd {σ τ : SS} (h : Ok σ) (g : Gd σ τ) : Ok τ := by
  obtain ⟨hI, ⟨a0, a1, a2, a5, a6, a12, a13⟩, ⟨b9, b17, b18, b21, b22, b23, b24, b27, b28, b7⟩, ho, hob⟩ := h
  obtain ⟨gI, k, f⟩ := g
  have ki : ∀ {i j : Nat}, ac_scI i = false → ac_scI j = false → ac_gi σ i = ac_gi σ j → ac_gi τ i = ac_gi τ j := fun h1 h2 e => ((k _ h1).trans e).trans (k _ h2).symm
  have ka : ∀ {i j : Nat}, ac_scA i = false → ac_scA j = false → ac_ga σ i = ac_ga σ j → ac_ga τ i = ac_ga τ j := fun h1 h2 e => ((f _ h1).trans e).trans (f _ h2).symm
  refine ⟨gI, ⟨ki rfl rfl a0, ki rfl rfl a1, ki rfl rfl a2, ki rfl rfl a5, ki rfl rfl a6, ki rfl rfl a12, ki rfl rfl a13⟩, ⟨ka rfl rfl b9, ka rfl rfl b17, ka rfl rfl b18, ka rfl rfl b21, ka rfl rfl b22, ka rfl rfl b23, ka rfl rfl b24, ka rfl rfl b27, ka rfl rfl b28, ka rfl rfl b7⟩, fun j hj => ?_, fun j hj => ?_⟩
  · rw [k 4 rfl, f 36 rfl]
    exact ho j hj
  · rw [k 4 rfl] at hj
    rw [k 0 rfl]
    exact hob j hj
theorem upd_same (f : Nat → Int32) (i : Nat) : upd f i (f i) = f := by
  funext j
  unfold upd
  split
  · rename_i h; rw [h]
  · rfl
set_option maxRecDepth 100000 in
theorem ok_mast {σ u v : SS} {r1 r2 : Int32} (h : Ok σ) (h1 : po_X6_mast σ  r1 u) (h2 : po_X7_mast u  r2 v) : Ok v ∧ r1 = r2 := by
  obtain ⟨hI, ⟨a0, a1, a2, a5, a6, a12, a13⟩, ⟨b9, b17, b18, b21, b22, b23, b24, b27, b28, b7⟩, ho, hob⟩ := h
  have e0 := congrArg Int32.toInt a0
  have e12 := congrArg Int32.toInt a12
  have e13 := congrArg Int32.toInt a13
  rcases h1 with ⟨p1, rfl, rfl, i1⟩ | ⟨p1, rfl, rfl, i1⟩
  · rcases h2 with ⟨p2, rfl, rfl, i2⟩ | ⟨p2, rfl, rfl, i2⟩
    · exact ⟨⟨i2, ⟨⟨a0, a1, a2, a5, a6, a12, a13⟩, ⟨b9, b17, b18, b21, b22, b23, b24, b27, b28, b7⟩, ho, hob⟩⟩, rfl⟩
    · exfalso
      have p2 : pc_X7_mast_1 σ  := p2
      omega
  · rcases h2 with ⟨p2, rfl, rfl, i2⟩ | ⟨p2, rfl, rfl, i2⟩
    · exfalso
      have p2 : pc_X7_mast_0 σ  := p2
      omega
    · exact ⟨⟨i2, ⟨⟨congrArg (fun z => z + 1) a0, a1, a2, a5, a6, a12, a13⟩, ⟨b9, b17, b18, b21, b22, b23, b24, b27, b28, b7⟩, ho, fun j hj => by have q := hob j hj; have t := ac_ti1 (show iv 0 10 (ac_gi σ 0) from hI.1 0) (iv_c (c := 1) (x := (1 : Int32)) (by decide)) (by decide) (by decide) (by decide); show (j : Int) < (ac_gi σ 0 + 1).toInt; omega⟩⟩, congrArg (fun z => z + 1 - 1) a0⟩
set_option maxRecDepth 100000 in
theorem ok_channels {σ u v : SS} {x1 : Int32} {r1 r2 : Int32} (h : Ok σ) (h1 : po_X6_channels σ x1 r1 u) (h2 : po_X7_channels u x1 r2 v) : Ok v ∧ r1 = r2 := by
  obtain ⟨hI, ⟨a0, a1, a2, a5, a6, a12, a13⟩, ⟨b9, b17, b18, b21, b22, b23, b24, b27, b28, b7⟩, ho, hob⟩ := h
  have e0 := congrArg Int32.toInt a0
  have e12 := congrArg Int32.toInt a12
  have e13 := congrArg Int32.toInt a13
  rcases h1 with ⟨p1, rfl, rfl, i1⟩ | ⟨p1, rfl, rfl, i1⟩
  · rcases h2 with ⟨p2, rfl, rfl, i2⟩ | ⟨p2, rfl, rfl, i2⟩
    · exact ⟨⟨i2, ⟨⟨a0, a1, a2, a5, a6, a12, a13⟩, ⟨b9, b17, b18, b21, b22, b23, b24, b27, b28, b7⟩, ho, hob⟩⟩, rfl⟩
    · exfalso
      have p2 : pc_X7_channels_1 σ x1 := p2
      omega
  · rcases h2 with ⟨p2, rfl, rfl, i2⟩ | ⟨p2, rfl, rfl, i2⟩
    · exfalso
      have p2 : pc_X7_channels_0 σ x1 := p2
      omega
    · exact ⟨⟨i2, ⟨⟨a0, rfl, a2, a5, a6, a12, a13⟩, ⟨b9, b17, b18, b21, b22, b23, b24, b27, b28, b7⟩, ho, hob⟩⟩, a1⟩
set_option maxRecDepth 100000 in
theorem ok_limit {σ u v : SS} {x1 : Int32} {r1 r2 : Int32} (h : Ok σ) (h1 : po_X6_limit σ x1 r1 u) (h2 : po_X7_limit u x1 r2 v) : Ok v ∧ r1 = r2 := by
  obtain ⟨hI, ⟨a0, a1, a2, a5, a6, a12, a13⟩, ⟨b9, b17, b18, b21, b22, b23, b24, b27, b28, b7⟩, ho, hob⟩ := h
  have e0 := congrArg Int32.toInt a0
  have e12 := congrArg Int32.toInt a12
  have e13 := congrArg Int32.toInt a13
  rcases h1 with ⟨p1, rfl, rfl, i1⟩ | ⟨p1, rfl, rfl, i1⟩
  · rcases h2 with ⟨p2, rfl, rfl, i2⟩ | ⟨p2, rfl, rfl, i2⟩
    · exact ⟨⟨i2, ⟨⟨a0, a1, a2, a5, a6, a12, a13⟩, ⟨b9, b17, b18, b21, b22, b23, b24, b27, b28, b7⟩, ho, hob⟩⟩, rfl⟩
    · exfalso
      have p2 : pc_X7_limit_1 σ x1 := p2
      omega
  · rcases h2 with ⟨p2, rfl, rfl, i2⟩ | ⟨p2, rfl, rfl, i2⟩
    · exfalso
      have p2 : pc_X7_limit_0 σ x1 := p2
      omega
    · exact ⟨⟨i2, ⟨⟨a0, a1, rfl, a5, a6, a12, a13⟩, ⟨b9, b17, b18, b21, b22, b23, b24, b27, b28, b7⟩, ho, hob⟩⟩, a2⟩
set_option maxRecDepth 100000 in
theorem ok_clock {σ u v : SS} {x1 x2 : Int32} {r1 r2 : Int32} (h : Ok σ) (h1 : po_X6_clock σ x1 x2 r1 u) (h2 : po_X7_clock u x1 x2 r2 v) : Ok v ∧ r1 = r2 := by
  obtain ⟨hI, ⟨a0, a1, a2, a5, a6, a12, a13⟩, ⟨b9, b17, b18, b21, b22, b23, b24, b27, b28, b7⟩, ho, hob⟩ := h
  have e0 := congrArg Int32.toInt a0
  have e12 := congrArg Int32.toInt a12
  have e13 := congrArg Int32.toInt a13
  rcases h1 with ⟨p1, rfl, rfl, i1⟩ | ⟨p1, rfl, rfl, i1⟩
  · rcases h2 with ⟨p2, rfl, rfl, i2⟩ | ⟨p2, rfl, rfl, i2⟩
    · exact ⟨⟨i2, ⟨⟨a0, a1, a2, a5, a6, a12, a13⟩, ⟨b9, b17, b18, b21, b22, b23, b24, b27, b28, b7⟩, ho, hob⟩⟩, rfl⟩
    · exfalso
      have p2 : pc_X7_clock_1 σ x1 x2 := p2
      omega
  · rcases h2 with ⟨p2, rfl, rfl, i2⟩ | ⟨p2, rfl, rfl, i2⟩
    · exfalso
      have p2 : pc_X7_clock_0 σ x1 x2 := p2
      omega
    · exact ⟨⟨i2, ⟨⟨a0, a1, a2, rfl, rfl, a12, a13⟩, ⟨b9, b17, b18, b21, b22, b23, b24, b27, b28, b7⟩, ho, hob⟩⟩, rfl⟩
set_option maxRecDepth 100000 in
theorem ok_house {σ u v : SS} {r1 r2 : Int32} (h : Ok σ) (h1 : po_X6_house σ  r1 u) (h2 : po_X7_house u  r2 v) : Ok v ∧ r1 = r2 := by
  obtain ⟨hI, ⟨a0, a1, a2, a5, a6, a12, a13⟩, ⟨b9, b17, b18, b21, b22, b23, b24, b27, b28, b7⟩, ho, hob⟩ := h
  have e0 := congrArg Int32.toInt a0
  have e12 := congrArg Int32.toInt a12
  have e13 := congrArg Int32.toInt a13
  rcases h1 with ⟨p1, rfl, rfl, i1⟩ | ⟨p1, rfl, rfl, i1⟩
  · rcases h2 with ⟨p2, rfl, rfl, i2⟩ | ⟨p2, rfl, rfl, i2⟩
    · exact ⟨⟨i2, ⟨⟨a0, a1, a2, a5, a6, a12, a13⟩, ⟨b9, b17, b18, b21, b22, b23, b24, b27, b28, b7⟩, ho, hob⟩⟩, rfl⟩
    · exfalso
      have p2 : pc_X7_house_1 σ  := p2
      omega
  · rcases h2 with ⟨p2, rfl, rfl, i2⟩ | ⟨p2, rfl, rfl, i2⟩
    · exfalso
      have p2 : pc_X7_house_0 σ  := p2
      omega
    · exact ⟨⟨i2, ⟨⟨a0, a1, a2, a5, a6, congrArg (fun z => z + 1) a12, a13⟩, ⟨b9, b17, b18, b21, b22, b23, b24, b27, b28, b7⟩, ho, hob⟩⟩, congrArg (fun z => z + 1 - 1) a12⟩
set_option maxRecDepth 100000 in
theorem ok_price {σ u v : SS} {x1 x2 : Int32} {r1 r2 : Int32} (h : Ok σ) (h1 : po_X6_price σ x1 x2 r1 u) (h2 : po_X7_price u x1 x2 r2 v) : Ok v ∧ r1 = r2 := by
  obtain ⟨hI, ⟨a0, a1, a2, a5, a6, a12, a13⟩, ⟨b9, b17, b18, b21, b22, b23, b24, b27, b28, b7⟩, ho, hob⟩ := h
  have e0 := congrArg Int32.toInt a0
  have e12 := congrArg Int32.toInt a12
  have e13 := congrArg Int32.toInt a13
  rcases h1 with ⟨p1, rfl, rfl, i1⟩ | ⟨p1, rfl, rfl, i1⟩
  · rcases h2 with ⟨p2, rfl, rfl, i2⟩ | ⟨p2, rfl, rfl, i2⟩
    · exact ⟨⟨i2, ⟨⟨a0, a1, a2, a5, a6, a12, a13⟩, ⟨b9, b17, b18, b21, b22, b23, b24, b27, b28, b7⟩, ho, hob⟩⟩, rfl⟩
    · exfalso
      have p2 : pc_X7_price_1 σ x1 x2 := p2
      omega
  · rcases h2 with ⟨p2, rfl, rfl, i2⟩ | ⟨p2, rfl, rfl, i2⟩
    · exfalso
      have p2 : pc_X7_price_0 σ x1 x2 := p2
      omega
    · exact ⟨⟨i2, ⟨⟨a0, a1, a2, a5, a6, a12, a13⟩, ⟨b9, b17, b18, b21, b22, b23, congrArg (fun f => upd f x1.toNatClampNeg x2) b24, b27, b28, b7⟩, ho, hob⟩⟩, congrFun b24 _⟩
set_option maxRecDepth 100000 in
theorem ok_heard {σ u v : SS} {x1 x2 : Int32} {r1 r2 : Int32} (h : Ok σ) (h1 : po_X6_heard σ x1 x2 r1 u) (h2 : po_X7_heard u x1 x2 r2 v) : Ok v ∧ r1 = r2 := by
  obtain ⟨hI, ⟨a0, a1, a2, a5, a6, a12, a13⟩, ⟨b9, b17, b18, b21, b22, b23, b24, b27, b28, b7⟩, ho, hob⟩ := h
  have e0 := congrArg Int32.toInt a0
  have e12 := congrArg Int32.toInt a12
  have e13 := congrArg Int32.toInt a13
  rcases h1 with ⟨p1, rfl, rfl, i1⟩ | ⟨p1, rfl, rfl, i1⟩
  · rcases h2 with ⟨p2, rfl, rfl, i2⟩ | ⟨p2, rfl, rfl, i2⟩
    · exact ⟨⟨i2, ⟨⟨a0, a1, a2, a5, a6, a12, a13⟩, ⟨b9, b17, b18, b21, b22, b23, b24, b27, b28, b7⟩, ho, hob⟩⟩, rfl⟩
    · exfalso
      have p2 : pc_X7_heard_1 σ x1 x2 := p2
      have q : (1 : Int32) <<< (ac_gi σ 0 &&& 31) = (1 : Int32) <<< (ac_gi σ 15 &&& 31) := by rw [a0]
      have q2 := congrArg Int32.toInt q
      omega
  · rcases h2 with ⟨p2, rfl, rfl, i2⟩ | ⟨p2, rfl, rfl, i2⟩
    · exfalso
      have p2 : pc_X7_heard_0 σ x1 x2 := p2
      have q : (1 : Int32) <<< (ac_gi σ 0 &&& 31) = (1 : Int32) <<< (ac_gi σ 15 &&& 31) := by rw [a0]
      have q2 := congrArg Int32.toInt q
      omega
    · exact ⟨⟨i2, ⟨⟨a0, a1, a2, a5, a6, a12, a13⟩, ⟨b9, b17, b18, b21, b22, b23, b24, b27, b28, congrArg (fun f => upd f x1.toNatClampNeg x2) b7⟩, ho, hob⟩⟩, congrFun b7 _⟩
theorem pr_upd {f g : Nat → Int32} {x y v : Int32} (e : f = g) : upd (upd f (x * 10 + y).toNatClampNeg v) (y * 10 + x).toNatClampNeg v = upd (upd g (10 * x + y).toNatClampNeg v) (10 * y + x).toNatClampNeg v := by
  rw [e, Int32.mul_comm x 10, Int32.mul_comm y 10]
theorem pr_at {f g : Nat → Int32} {x y : Int32} (e : f = g) : f (x * 10 + y).toNatClampNeg = g (10 * x + y).toNatClampNeg := by
  rw [e, Int32.mul_comm x 10]
set_option maxRecDepth 100000 in
theorem ok_pair {σ u v : SS} {x1 x2 x3 : Int32} {r1 r2 : Int32} (h : Ok σ) (h1 : po_X6_pair σ x1 x2 x3 r1 u) (h2 : po_X7_pair u x1 x2 x3 r2 v) : Ok v ∧ r1 = r2 := by
  obtain ⟨hI, ⟨a0, a1, a2, a5, a6, a12, a13⟩, ⟨b9, b17, b18, b21, b22, b23, b24, b27, b28, b7⟩, ho, hob⟩ := h
  have e0 := congrArg Int32.toInt a0
  have e12 := congrArg Int32.toInt a12
  have e13 := congrArg Int32.toInt a13
  rcases h1 with ⟨p1, rfl, rfl, i1⟩ | ⟨p1, rfl, rfl, i1⟩
  · rcases h2 with ⟨p2, rfl, rfl, i2⟩ | ⟨p2, rfl, rfl, i2⟩
    · exact ⟨⟨i2, ⟨⟨a0, a1, a2, a5, a6, a12, a13⟩, ⟨b9, b17, b18, b21, b22, b23, b24, b27, b28, b7⟩, ho, hob⟩⟩, rfl⟩
    · exfalso
      have p2 : pc_X7_pair_1 σ x1 x2 x3 := p2
      omega
  · rcases h2 with ⟨p2, rfl, rfl, i2⟩ | ⟨p2, rfl, rfl, i2⟩
    · exfalso
      have p2 : pc_X7_pair_0 σ x1 x2 x3 := p2
      omega
    · exact ⟨⟨i2, ⟨⟨a0, a1, a2, a5, a6, a12, a13⟩, ⟨pr_upd b9, b17, b18, b21, b22, b23, b24, b27, b28, b7⟩, ho, hob⟩⟩, pr_at b9⟩
set_option maxRecDepth 100000 in
theorem ok_bar {σ u v : SS} {x1 x2 : Int32} {r1 r2 : Int32} (h : Ok σ) (h1 : po_X6_bar σ x1 x2 r1 u) (h2 : po_X7_bar u x1 x2 r2 v) : Ok v := by
  obtain ⟨hI, ⟨a0, a1, a2, a5, a6, a12, a13⟩, ⟨b9, b17, b18, b21, b22, b23, b24, b27, b28, b7⟩, ho, hob⟩ := h
  rcases h1 with ⟨p1, rfl, rfl, i1⟩ | ⟨p1, rfl, rfl, i1⟩
  · rcases h2 with ⟨p2, rfl, rfl, i2⟩ | ⟨p2, rfl, rfl, i2⟩
    · exact ⟨i2, ⟨⟨a0, a1, a2, a5, a6, a12, a13⟩, ⟨b9, b17, b18, b21, b22, b23, b24, b27, b28, b7⟩, ho, hob⟩⟩
    · exact ⟨i2, ⟨⟨a0, a1, a2, a5, a6, a12, a13⟩, ⟨b9, b17, b18, b21, b22, b23, b24, b27, b28, b7⟩, ho, hob⟩⟩
  · rcases h2 with ⟨p2, rfl, rfl, i2⟩ | ⟨p2, rfl, rfl, i2⟩
    · exact ⟨i2, ⟨⟨a0, a1, a2, a5, a6, a12, a13⟩, ⟨b9, b17, b18, b21, b22, b23, b24, b27, b28, b7⟩, ho, hob⟩⟩
    · exact ⟨i2, ⟨⟨a0, a1, a2, a5, a6, a12, a13⟩, ⟨b9, b17, b18, b21, b22, b23, b24, b27, b28, b7⟩, ho, hob⟩⟩
theorem ask_upd {f g : Nat → Int32} {x y v : Int32} (e : f = g) (e2 : x = y) : upd f x.toNatClampNeg v = upd g y.toNatClampNeg v := by
  rw [e, e2]
theorem tell_upd {f g : Nat → Int32} {i : Nat} (e : f = g) : f = upd g i (g i) := by
  rw [upd_same, e]
set_option maxRecDepth 100000 in
theorem ok_ask {σ u v : SS} {x1 x2 x3 : Int32} {r1 r2 : Int32} (h : Ok σ) (h1 : po_X6_ask σ x1 x2 x3 r1 u) (h2 : po_X7_ask u x1 x2 x3 r2 v) : Ok v ∧ r1 = r2 := by
  obtain ⟨hI, ⟨a0, a1, a2, a5, a6, a12, a13⟩, ⟨b9, b17, b18, b21, b22, b23, b24, b27, b28, b7⟩, ho, hob⟩ := h
  have e0 := congrArg Int32.toInt a0
  have e12 := congrArg Int32.toInt a12
  have e13 := congrArg Int32.toInt a13
  rcases h1 with ⟨p1, rfl, rfl, i1⟩ | ⟨p1, rfl, rfl, i1⟩ | ⟨p1, rfl, rfl, i1⟩
  · rcases h2 with ⟨p2, rfl, rfl, i2⟩ | ⟨p2, rfl, rfl, i2⟩ | ⟨p2, rfl, rfl, i2⟩
    · exact ⟨⟨i2, ⟨⟨a0, a1, a2, a5, a6, a12, a13⟩, ⟨b9, b17, b18, b21, b22, b23, b24, b27, b28, b7⟩, ho, hob⟩⟩, rfl⟩
    · exfalso
      have p2 : pc_X7_ask_1 σ x1 x2 x3 := p2
      omega
    · exfalso
      have p2 : pc_X7_ask_2 σ x1 x2 x3 := p2
      omega
  · rcases h2 with ⟨p2, rfl, rfl, i2⟩ | ⟨p2, rfl, rfl, i2⟩ | ⟨p2, rfl, rfl, i2⟩
    · exfalso
      have p2 : pc_X7_ask_0 σ x1 x2 x3 := p2
      omega
    · exact ⟨⟨i2, ⟨⟨a0, a1, a2, a5, a6, a12, a13⟩, ⟨b9, b17, b18, b21, b22, b23, b24, b27, b28, b7⟩, ho, hob⟩⟩, rfl⟩
    · exfalso
      have p2 : pc_X7_ask_2 σ x1 x2 x3 := p2
      omega
  · rcases h2 with ⟨p2, rfl, rfl, i2⟩ | ⟨p2, rfl, rfl, i2⟩ | ⟨p2, rfl, rfl, i2⟩
    · exfalso
      have p2 : pc_X7_ask_0 σ x1 x2 x3 := p2
      omega
    · exfalso
      have p2 : pc_X7_ask_1 σ x1 x2 x3 := p2
      omega
    · exact ⟨⟨i2, ⟨⟨a0, a1, a2, a5, a6, a12, congrArg (fun z => z + 1) a13⟩, ⟨b9, b17, b18, ask_upd b21 a13, ask_upd b22 a13, ask_upd b23 a13, b24, b27, b28, b7⟩, ho, hob⟩⟩, congrArg (fun z => z + 1 - 1) a13⟩
set_option maxRecDepth 100000 in
theorem ok_tell {σ u v : SS} {x1 x2 x3 : Int32} {r1 r2 : Int32} (h : Ok σ) (h1 : po_X6_tell σ x1 x2 x3 r1 u) (h2 : po_X7_tell u x1 x2 x3 r2 v) : Ok v ∧ r1 = r2 := by
  obtain ⟨hI, ⟨a0, a1, a2, a5, a6, a12, a13⟩, ⟨b9, b17, b18, b21, b22, b23, b24, b27, b28, b7⟩, ho, hob⟩ := h
  have e0 := congrArg Int32.toInt a0
  have e12 := congrArg Int32.toInt a12
  have e13 := congrArg Int32.toInt a13
  rcases h1 with ⟨p1, rfl, rfl, i1⟩ | ⟨p1, rfl, rfl, i1⟩ | ⟨p1, rfl, rfl, i1⟩
  · rcases h2 with ⟨p2, rfl, rfl, i2⟩ | ⟨p2, rfl, rfl, i2⟩ | ⟨p2, rfl, rfl, i2⟩
    · exact ⟨⟨i2, ⟨⟨a0, a1, a2, a5, a6, a12, a13⟩, ⟨b9, b17, b18, b21, b22, b23, b24, b27, b28, b7⟩, ho, hob⟩⟩, rfl⟩
    · exfalso
      have p2 : pc_X7_tell_1 σ x1 x2 x3 := p2
      omega
    · exfalso
      have p2 : pc_X7_tell_2 σ x1 x2 x3 := p2
      omega
  · rcases h2 with ⟨p2, rfl, rfl, i2⟩ | ⟨p2, rfl, rfl, i2⟩ | ⟨p2, rfl, rfl, i2⟩
    · exfalso
      have p2 : pc_X7_tell_0 σ x1 x2 x3 := p2
      omega
    · exact ⟨⟨i2, ⟨⟨a0, a1, a2, a5, a6, a12, a13⟩, ⟨b9, b17, b18, b21, b22, b23, b24, congrArg (fun f => upd f x1.toNatClampNeg x3) b27, tell_upd b28, b7⟩, ho, hob⟩⟩, congrFun b27 _⟩
    · exfalso
      have p2 : pc_X7_tell_2 σ x1 x2 x3 := p2
      omega
  · rcases h2 with ⟨p2, rfl, rfl, i2⟩ | ⟨p2, rfl, rfl, i2⟩ | ⟨p2, rfl, rfl, i2⟩
    · exfalso
      have p2 : pc_X7_tell_0 σ x1 x2 x3 := p2
      omega
    · exfalso
      have p2 : pc_X7_tell_1 σ x1 x2 x3 := p2
      omega
    · exact ⟨⟨i2, ⟨⟨a0, a1, a2, a5, a6, a12, a13⟩, ⟨b9, b17, b18, b21, b22, b23, b24, tell_upd b27, congrArg (fun f => upd f x1.toNatClampNeg x3) b28, b7⟩, ho, hob⟩⟩, congrFun b28 _⟩
theorem old_bit {x y : Int32} {j : Nat} {f : Nat → Int32} (hx : iv 0 1023 x) (hy : iv 0 9 y) (hj : j < 10) (h : ∀ j, j < 10 → (((x >>> (nI j &&& 31)) &&& 1) = 0 ↔ f j = 0)) : ((((x ||| ((1 : Int32) <<< (y &&& 31))) >>> (nI j &&& 31)) &&& 1) = 0 ↔ upd f y.toNatClampNeg (vp_nar .boolean 1) j = 0) := by
  obtain ⟨n, e, e2, hn⟩ := nI_iv hx
  obtain ⟨m, g, g2, hm⟩ := nI_iv hy
  have hm9 : m < 10 := by have := hy.2; omega
  have hx2 := hx.2
  have hcl : y.toNatClampNeg = m := by rw [g]; exact nI_clamp hm
  have h1 := h j hj
  rw [bit_tb (by omega)] at h1
  rw [bit_tb (by omega), hcl, g, nI_shl1 (by omega)]
  rw [e] at h1 ⊢
  have hp : (2 : Nat) ^ m < 2 ^ 10 := Nat.pow_lt_pow_right (by decide) hm9
  rw [nI_or, pk_tn (by have := Nat.or_lt_two_pow (n := 10) (x := n) (y := 2 ^ m) (by omega) hp; omega), Nat.testBit_or, Nat.testBit_two_pow]
  rw [pk_tn (by omega)] at h1
  unfold upd
  by_cases hjm : j = m
  · subst hjm
    simp
    decide
  · rw [if_neg hjm]
    have h3 : decide (m = j) = false := by simp; omega
    rw [h3, Bool.or_false]
    exact h1
theorem old_at {σ : SS} {x : Int32} (hx : iv 0 9 x) (h : ∀ j : Nat, j < 10 → (((ac_gi σ 4 >>> (nI j &&& 31)) &&& 1) = 0 ↔ ac_ga σ 36 j = 0)) : (((ac_gi σ 4 >>> (x &&& 31)) &&& 1) = 0 ↔ ac_ga σ 36 x.toNatClampNeg = 0) := by
  obtain ⟨m, g, g2, hm⟩ := nI_iv hx
  have hm9 : m < 10 := by have := hx.2; omega
  have h1 := h m hm9
  rw [g, nI_clamp hm]
  exact h1
set_option maxRecDepth 100000 in
theorem ok_old {σ u v : SS} {x1 x2 x3 : Int32} {r1 r2 : Int32} (h : Ok σ) (h1 : po_X6_old σ x1 x2 x3 r1 u) (h2 : po_X7_old u x1 x2 x3 r2 v) : Ok v ∧ r1 = r2 := by
  obtain ⟨hI, ⟨a0, a1, a2, a5, a6, a12, a13⟩, ⟨b9, b17, b18, b21, b22, b23, b24, b27, b28, b7⟩, ho, hob⟩ := h
  have e0 := congrArg Int32.toInt a0
  have e12 := congrArg Int32.toInt a12
  have e13 := congrArg Int32.toInt a13
  rcases h1 with ⟨p1, rfl, rfl, i1⟩ | ⟨p1, rfl, rfl, i1⟩ | ⟨p1, rfl, rfl, i1⟩
  · rcases h2 with ⟨p2, rfl, rfl, i2⟩ | ⟨p2, rfl, rfl, i2⟩ | ⟨p2, rfl, rfl, i2⟩
    · exact ⟨⟨i2, ⟨⟨a0, a1, a2, a5, a6, a12, a13⟩, ⟨b9, b17, b18, b21, b22, b23, b24, b27, b28, b7⟩, ho, hob⟩⟩, rfl⟩
    · exfalso
      have p2 : pc_X7_old_1 σ x1 x2 x3 := p2
      omega
    · exfalso
      have p2 : pc_X7_old_2 σ x1 x2 x3 := p2
      omega
  · rcases h2 with ⟨p2, rfl, rfl, i2⟩ | ⟨p2, rfl, rfl, i2⟩ | ⟨p2, rfl, rfl, i2⟩
    · exfalso
      have p2 : pc_X7_old_0 σ x1 x2 x3 := p2
      omega
    · exact ⟨⟨i2, ⟨⟨a0, a1, a2, a5, a6, a12, a13⟩, ⟨b9, b17, b18, b21, b22, b23, b24, b27, b28, b7⟩, ho, hob⟩⟩, rfl⟩
    · exfalso
      have p2 : pc_X7_old_2 σ x1 x2 x3 := p2
      have q : iv 0 9 x1 := ⟨by omega, by have := (show iv 0 10 (ac_gi σ 0) from hI.1 0).2; omega⟩
      exact p1.2 ((old_at q ho).mpr p2.2)
  · rcases h2 with ⟨p2, rfl, rfl, i2⟩ | ⟨p2, rfl, rfl, i2⟩ | ⟨p2, rfl, rfl, i2⟩
    · exfalso
      have p2 : pc_X7_old_0 σ x1 x2 x3 := p2
      omega
    · exfalso
      have p2 : pc_X7_old_1 σ x1 x2 x3 := p2
      have q : iv 0 9 x1 := ⟨by omega, by have := (show iv 0 10 (ac_gi σ 0) from hI.1 0).2; omega⟩
      exact p2.2 ((old_at q ho).mp p1.2)
    · exact ⟨⟨i2, ⟨⟨a0, a1, a2, a5, a6, a12, a13⟩, ⟨b9, congrArg (fun f => upd f x1.toNatClampNeg x2) b17, congrArg (fun f => upd f x1.toNatClampNeg x3) b18, b21, b22, b23, b24, b27, b28, b7⟩, fun j hj => old_bit (show iv 0 1023 (ac_gi σ 4) from hI.1 4) (show iv 0 9 x1 from ⟨by omega, by have := (show iv 0 10 (ac_gi σ 0) from hI.1 0).2; omega⟩) hj ho, fun j hj => by
        have q : iv 0 9 x1 := ⟨by omega, by have := (show iv 0 10 (ac_gi σ 0) from hI.1 0).2; omega⟩
        have hj : tb (ac_gi σ 4 ||| ((1 : Int32) <<< (x1 &&& 31))) j = true := hj
        have q2 := iv_cl q (by decide)
        rw [tb_or, tb_shl1 q (by decide), Bool.or_eq_true, decide_eq_true_eq] at hj
        show (j : Int) < (ac_gi σ 0).toInt
        rcases hj with hj | hj
        · exact hob j hj
        · omega⟩⟩, rfl⟩
/-- the old ones are the same set -/
theorem old_set {σ : SS} {o : Int32} (h : Ok σ) (ho2 : ∀ j : Nat, tb o j = true ↔ ((j : Int) < (ac_gi σ 15).toInt ∧ ¬ ac_ga σ 36 j = 0)) : o = ac_gi σ 4 := by
  obtain ⟨hI, ⟨a0, a1, a2, a5, a6, a12, a13⟩, -, ho, hob⟩ := h
  have e0 := congrArg Int32.toInt a0
  have h10 := (show iv 0 10 (ac_gi σ 0) from hI.1 0).2
  refine tb_ext (fun j => ?_)
  rw [Bool.eq_iff_iff, ho2 j]
  constructor
  · intro z
    have hj : j < 10 := by have := z.1; omega
    have h1 := ho j hj
    rw [bit_tb (by omega)] at h1
    cases hb : tb (ac_gi σ 4) j with
    | true => rfl
    | false => exact absurd (h1.mp hb) z.2
  · intro z
    have hz := hob j z
    have hj : j < 10 := by omega
    have h1 := ho j hj
    rw [bit_tb (by omega)] at h1
    refine ⟨by omega, fun e => ?_⟩
    have h2 := h1.mpr e
    have h3 : tb (ac_gi σ 4) j = false := h2
    rw [z] at h3
    cases h3
theorem eq_count {σ : SS} {x r1 r2 : Int32} (h : Ok σ) (h1 : cnt_p x r1 (ac_gi σ 0) (ac_bc (ac_gi σ 4)) (ac_gi σ 12) (ac_gi σ 13)) (h2 : ∃ o : Int32, (∀ j : Nat, tb o j = true ↔ ((j : Int) < (ac_gi σ 15).toInt ∧ ¬ ac_ga σ 36 j = 0)) ∧ cnt_p x r2 (ac_gi σ 15) (on_f o 16) (ac_gi σ 25) (ac_gi σ 26)) : r1 = r2 := by
  obtain ⟨o, ho2, h2⟩ := h2
  have eo := old_set h ho2
  obtain ⟨hI, ⟨a0, a1, a2, a5, a6, a12, a13⟩, -, -, -⟩ := h
  obtain ⟨n, e, e2, hn⟩ := nI_iv (show iv 0 1023 (ac_gi σ 4) from hI.1 4)
  have hn2 := (show iv 0 1023 (ac_gi σ 4) from hI.1 4).2
  have eb : ac_bc (ac_gi σ 4) = on_f o 16 := by
    rw [eo, e]
    exact bc_on n (by omega)
  rcases h1 with ⟨z, e1⟩ | ⟨z, e1⟩ | ⟨z, e1⟩ | ⟨z, e1⟩ | ⟨z, e1⟩ <;> rcases h2 with ⟨w, f1⟩ | ⟨w, f1⟩ | ⟨w, f1⟩ | ⟨w, f1⟩ | ⟨w, f1⟩ <;> first
    | exact absurd (z.symm.trans w) (by decide)
    | exact absurd z w.1
    | exact absurd z w.2.1
    | exact absurd z w.2.2.1
    | exact absurd z w.2.2.2
    | exact absurd w z.1
    | exact absurd w z.2.1
    | exact absurd w z.2.2.1
    | exact absurd w z.2.2.2
    | exact (e1.trans a0).trans f1.symm
    | exact (e1.trans eb).trans f1.symm
    | exact (e1.trans a12).trans f1.symm
    | exact (e1.trans a13).trans f1.symm
    | exact e1.trans f1.symm
theorem eq_could {σ : SS} {x1 x2 r1 r2 : Int32} (h : Ok σ) (h1 : (((0 ≤ (x1).toInt ∧ (x1).toInt < ((1 : Int32) <<< (ac_gi σ 0 &&& 31)).toInt) ∧ (0 ≤ (x2).toInt ∧ (x2).toInt < ((1 : Int32) <<< (ac_gi σ 0 &&& 31)).toInt) ∧ (x2 &&& (x1 ^^^ (-1 : Int32))) = 0) ∧ r1 = cf_f (ac_ga σ 7) x1 x2 16) ∨ (¬ ((0 ≤ (x1).toInt ∧ (x1).toInt < ((1 : Int32) <<< (ac_gi σ 0 &&& 31)).toInt) ∧ (0 ≤ (x2).toInt ∧ (x2).toInt < ((1 : Int32) <<< (ac_gi σ 0 &&& 31)).toInt) ∧ (x2 &&& (x1 ^^^ (-1 : Int32))) = 0) ∧ r1 = -2))
    (h2 : (((0 ≤ (x1).toInt ∧ (x1).toInt < ((1 : Int32) <<< (ac_gi σ 15 &&& 31)).toInt) ∧ (0 ≤ (x2).toInt ∧ (x2).toInt < ((1 : Int32) <<< (ac_gi σ 15 &&& 31)).toInt) ∧ (x2 &&& (x1 ^^^ (-1 : Int32))) = 0) ∧ r2 = cf_f (ac_ga σ 51) x1 x2 16) ∨ (¬ ((0 ≤ (x1).toInt ∧ (x1).toInt < ((1 : Int32) <<< (ac_gi σ 15 &&& 31)).toInt) ∧ (0 ≤ (x2).toInt ∧ (x2).toInt < ((1 : Int32) <<< (ac_gi σ 15 &&& 31)).toInt) ∧ (x2 &&& (x1 ^^^ (-1 : Int32))) = 0) ∧ r2 = -2)) : r1 = r2 := by
  obtain ⟨hI, ⟨a0, -⟩, ⟨-, -, -, -, -, -, -, -, -, b7⟩, -⟩ := h
  rw [← a0, ← b7] at h2
  rcases h1 with ⟨z, e⟩ | ⟨z, e⟩ <;> rcases h2 with ⟨w, f⟩ | ⟨w, f⟩
  · exact e.trans f.symm
  · exact absurd z w
  · exact absurd w z
  · exact e.trans f.symm
