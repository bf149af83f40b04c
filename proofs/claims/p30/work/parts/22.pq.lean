/-! Bits. -/
theorem sm31b : ∀ m, m < 31 → ((nI m &&& 31).toBitVec.smod 32).toNat = m := sm31
theorem bit_tb {x : Int32} {j : Nat} (hj : j < 31) : ((x >>> (nI j &&& 31)) &&& 1) = 0 ↔ x.toBitVec.toNat.testBit j = false := by
  have h1 : (x >>> (nI j &&& 31)).toBitVec.toNat.testBit 0 = x.toBitVec.toNat.testBit j := by
    have h2 : (x >>> (nI j &&& 31)).toBitVec = x.toBitVec.sshiftRight j := by
      rw [Int32.toBitVec_shiftRight]
      unfold BitVec.sshiftRight'
      rw [sm31b j hj]
    rw [h2]
    show (x.toBitVec.sshiftRight j).toNat.testBit 0 = _
    rw [BitVec.testBit_toNat, BitVec.getLsbD_sshiftRight, BitVec.testBit_toNat]
    have h3 : 0 + j < 32 := by omega
    simp only [show ¬ (32 ≤ 0) from by decide, decide_false, Bool.not_false, Bool.true_and]
    rw [if_pos (by omega)]
    congr 1
  rw [← h1, nI_all (x >>> (nI j &&& 31)), show (1 : Int32) = nI 1 from rfl, nI_and, Nat.and_one_is_mod]
  have h4 : (x >>> (nI j &&& 31)).toBitVec.toNat % 2 < 2 := Nat.mod_lt _ (by decide)
  rw [show (0 : Int32) = nI 0 from nI_0.symm, nI_eq (by omega) (by decide), Nat.testBit_zero]
  rw [pk_tn (by exact (x >>> (nI j &&& 31)).toBitVec.isLt)]
  simp
def tb (x : Int32) (j : Nat) : Bool := x.toBitVec.toNat.testBit j
theorem tb_or (x y : Int32) (j : Nat) : tb (x ||| y) j = (tb x j || tb y j) := by
  unfold tb
  rw [show (x ||| y).toBitVec = x.toBitVec ||| y.toBitVec from rfl, BitVec.toNat_or, Nat.testBit_or]
theorem tb_and (x y : Int32) (j : Nat) : tb (x &&& y) j = (tb x j && tb y j) := by
  unfold tb
  rw [show (x &&& y).toBitVec = x.toBitVec &&& y.toBitVec from rfl, BitVec.toNat_and, Nat.testBit_and]
theorem tb_0 (j : Nat) : tb 0 j = false := by
  unfold tb
  rw [show (0 : Int32).toBitVec.toNat = 0 from rfl]
  exact Nat.zero_testBit j
theorem tb_shl0 (y : Int32) (j : Nat) : tb ((0 : Int32) <<< (y &&& 31)) j = false := by
  have h : (0 : Int32) <<< (y &&& 31) = 0 := by
    apply Int32.toBitVec_inj.mp
    simp
  rw [h]
  exact tb_0 j
theorem tb_shl1 {b : Int} {y : Int32} (hy : iv 0 b y) (hb : b ≤ 30) (j : Nat) : tb ((1 : Int32) <<< (y &&& 31)) j = decide (y.toNatClampNeg = j) := by
  obtain ⟨m, g, g2, hm⟩ := nI_iv hy
  have hm31 : m < 31 := by have := hy.2; omega
  have hcl : y.toNatClampNeg = m := by rw [g]; exact nI_clamp hm
  have h3 : (2 : Nat) ^ m < 2 ^ 31 := Nat.pow_lt_pow_right (by decide) hm31
  rw [hcl, g, nI_shl1 hm31]
  unfold tb
  rw [pk_tn (by omega), Nat.testBit_two_pow]
theorem tb_ext {x y : Int32} (h : ∀ j, tb x j = tb y j) : x = y := by
  apply Int32.toBitVec_inj.mp
  apply BitVec.eq_of_toNat_eq
  exact Nat.eq_of_testBit_eq h
theorem tb_bit0 {b : Int} {x m : Int32} (hm : iv 0 b m) (hb : b ≤ 30) : ((x >>> (m &&& 31)) &&& 1) = 0 ↔ tb x m.toNatClampNeg = false := by
  obtain ⟨n, g, g2, hn⟩ := nI_iv hm
  have hn31 : n < 31 := by have := hm.2; omega
  have hcl : m.toNatClampNeg = n := by rw [g]; exact nI_clamp hn
  rw [hcl, g]
  exact bit_tb hn31
theorem tb_bit1 {b : Int} {x m : Int32} (hm : iv 0 b m) (hb : b ≤ 30) : ((x >>> (m &&& 31)) &&& 1) = 1 ↔ tb x m.toNatClampNeg = true := by
  have h := tb_bit0 (x := x) hm hb
  have h1 : iv 0 1 ((x >>> (m &&& 31)) &&& 1) := iv_andr (iv_wk (c := 0) (iv_c (c := 1) (x := (1 : Int32)) (by decide)) (by decide) (Int.le_refl _))
  rcases iv01 h1 with e | e
  · rw [e]
    constructor
    · intro z; exact absurd z (by decide)
    · intro z; rw [h.mp e] at z; cases z
  · rw [e]
    refine ⟨fun _ => ?_, fun _ => rfl⟩
    cases ht : tb x m.toNatClampNeg with
    | true => rfl
    | false => exact absurd (e.symm.trans (h.mpr ht)) (by decide)
/-- the model's olds, and its clock -/
def ol_E (f : Nat → Int32) (set m ms : Int32) : Prop := (∀ j : Nat, tb set j = true ↔ ((j : Int) < m.toInt ∧ ¬ f j = 0)) ∧ m.toInt ≤ ms.toInt
theorem ol_0 {f : Nat → Int32} {ms : Int32} (h : iv 0 10 ms) : ol_E f 0 0 ms := by
  have h0 : (0 : Int32).toInt = 0 := by decide
  refine ⟨fun j => ⟨fun hj => ?_, fun hj => ?_⟩, by have := h.1; omega⟩
  · rw [tb_0] at hj; cases hj
  · exact absurd hj.1 (by omega)
theorem ol_z {f : Nat → Int32} {set m ms : Int32} (hm : iv 0 9 m) (h : ol_E f set m ms) (hl : m < ms) (hc : f m.toNatClampNeg = 0) : ol_E f (set ||| ((0 : Int32) <<< (m &&& 31))) (m + 1) ms := by
  have e := (pk_n1 hm).2
  have e2 := iv_cl hm (by decide)
  refine ⟨fun j => ?_, by have := iv_lt hl; omega⟩
  rw [tb_or, tb_shl0, Bool.or_false, h.1 j]
  constructor
  · intro z; exact ⟨by omega, z.2⟩
  · intro z
    refine ⟨?_, z.2⟩
    by_cases hj : j = m.toNatClampNeg
    · rw [hj] at z; exact absurd hc z.2
    · have := z.1; omega
theorem ol_o {f : Nat → Int32} {set m ms : Int32} (hm : iv 0 9 m) (h : ol_E f set m ms) (hl : m < ms) (hc : ¬ f m.toNatClampNeg = 0) : ol_E f (set ||| ((1 : Int32) <<< (m &&& 31))) (m + 1) ms := by
  have e := (pk_n1 hm).2
  have e2 := iv_cl hm (by decide)
  refine ⟨fun j => ?_, by have := iv_lt hl; omega⟩
  rw [tb_or, tb_shl1 hm (by decide), Bool.or_eq_true, h.1 j, decide_eq_true_eq]
  constructor
  · intro z
    rcases z with z | z
    · exact ⟨by omega, z.2⟩
    · rw [← z]; exact ⟨by omega, hc⟩
  · intro z
    by_cases hj : m.toNatClampNeg = j
    · exact Or.inr hj
    · exact Or.inl ⟨by have := z.1; omega, z.2⟩
theorem ol_x {f : Nat → Int32} {set m ms : Int32} (h : ol_E f set m ms) (hl : ms ≤ m) : ∀ j : Nat, tb set j = true ↔ ((j : Int) < ms.toInt ∧ ¬ f j = 0) := fun j => by
  have h1 := iv_le hl
  have h2 := h.2
  have h3 : ms.toInt = m.toInt := by omega
  rw [h3]
  exact h.1 j
/-- the set of the old ones, whether asked or not -/
def ox_f (f : Nat → Int32) : Nat → Nat
  | 0 => 0
  | k + 1 => if f k = 0 then ox_f f k else ox_f f k ||| 2 ^ k
theorem ox_lt (f : Nat → Int32) : ∀ k, ox_f f k < 2 ^ k
  | 0 => Nat.zero_lt_one
  | k + 1 => by
    have ih := ox_lt f k
    have h1 : (2 : Nat) ^ (k + 1) = 2 ^ k * 2 := Nat.pow_succ 2 k
    show (if f k = 0 then ox_f f k else ox_f f k ||| 2 ^ k) < 2 ^ (k + 1)
    split
    · omega
    · exact Nat.or_lt_two_pow (by omega) (by have : 0 < (2 : Nat) ^ k := Nat.pos_of_ne_zero (by intro z; simp at z)
                                             omega)
theorem ox_tb (f : Nat → Int32) (j : Nat) : ∀ k, (ox_f f k).testBit j = true ↔ (j < k ∧ ¬ f j = 0)
  | 0 => by simp [ox_f]
  | k + 1 => by
    have ih := ox_tb f j k
    show (if f k = 0 then ox_f f k else ox_f f k ||| 2 ^ k).testBit j = true ↔ _
    split
    · rename_i h
      rw [ih]
      constructor
      · intro z; exact ⟨by omega, z.2⟩
      · intro z
        refine ⟨?_, z.2⟩
        by_cases hj : j = k
        · rw [hj] at z; exact absurd h z.2
        · omega
    · rename_i h
      rw [Nat.testBit_or, Bool.or_eq_true, ih, Nat.testBit_two_pow, decide_eq_true_eq]
      constructor
      · intro z
        rcases z with z | z
        · exact ⟨by omega, z.2⟩
        · rw [← z]; exact ⟨by omega, h⟩
      · intro z
        by_cases hj : k = j
        · exact Or.inr hj
        · exact Or.inl ⟨by omega, z.2⟩
theorem oldsx (σ : SS) (hI : Inv σ) : ∃ o : Int32, ∀ j : Nat, tb o j = true ↔ ((j : Int) < (ac_gi σ 15).toInt ∧ ¬ ac_ga σ 36 j = 0) := by
  have hm : iv 0 10 (ac_gi σ 15) := hI.1 15
  obtain ⟨n, e, e2, hn⟩ := nI_iv hm
  have hn10 : n ≤ 10 := by have := hm.2; omega
  have h1 := ox_lt (ac_ga σ 36) n
  have h2 : (2 : Nat) ^ n ≤ 2 ^ 10 := Nat.pow_le_pow_right (by decide) hn10
  refine ⟨nI (ox_f (ac_ga σ 36) n), fun j => ?_⟩
  unfold tb
  rw [pk_tn (by omega), ox_tb, ← e2]
  constructor
  · intro z; exact ⟨by omega, z.2⟩
  · intro z; exact ⟨by omega, z.2⟩
def gd_S (b f al : Int32) : Prop := ∀ j, tb (b ||| f) j = true → tb al j = true
def gd_I (b f al m p : Int32) : Prop := gd_S b f al ∧ (p.toInt = 0 → ∀ j : Nat, (j : Int) < m.toInt → tb al j = true → tb (b ||| f) j = true)
theorem gd_0 {al : Int32} : gd_S 0 0 al := fun j hj => by rw [tb_or, tb_0] at hj; cases hj
theorem gd_i0 {b f al p : Int32} (h : gd_S b f al) : gd_I b f al 0 p := ⟨h, fun _ j hj => by have : (0 : Int32).toInt = 0 := (by decide); omega⟩
theorem gd_same {b f al m p b' f' : Int32} (hm : iv 0 9 m) (h : gd_I b f al m p) (eb : b' = b) (ef : f' = f) (h1 : ¬ ((al >>> (m &&& 31)) &&& 1) = 1 ∨ ¬ (((b ||| f) >>> (m &&& 31)) &&& 1) = 0 ∨ ¬ p = 0) : gd_I b' f' al (m + 1) p := by
  subst eb; subst ef
  have e := (pk_n1 hm).2
  have e2 := iv_cl hm (by decide)
  refine ⟨h.1, fun hp j hj ha => ?_⟩
  by_cases hjm : (j : Int) < m.toInt
  · exact h.2 hp j hjm ha
  · have hj2 : j = m.toNatClampNeg := by omega
    subst hj2
    rcases h1 with h1 | h1 | h1
    · exact absurd ((tb_bit1 hm (by decide)).mpr ha) h1
    · cases hb : tb (b' ||| f') m.toNatClampNeg with
      | true => rfl
      | false => exact absurd ((tb_bit0 hm (by decide)).mpr hb) h1
    · exact absurd (Int32.toInt_inj.mp (hp.trans (by decide : (0 : Int) = (0 : Int32).toInt))) h1
theorem gd_new {b f al m p b' f' : Int32} (hm : iv 0 9 m) (h : gd_I b f al m p) (e : ∀ j, tb (b' ||| f') j = (tb (b ||| f) j || decide (m.toNatClampNeg = j))) (ha : ((al >>> (m &&& 31)) &&& 1) = 1) : gd_I b' f' al (m + 1) p := by
  have e1 := (pk_n1 hm).2
  have e2 := iv_cl hm (by decide)
  refine ⟨fun j hj => ?_, fun hp j hj ha2 => ?_⟩
  · rw [e, Bool.or_eq_true] at hj
    rcases hj with hj | hj
    · exact h.1 j hj
    · have := of_decide_eq_true hj
      rw [← this]
      exact (tb_bit1 hm (by decide)).mp ha
  · rw [e, Bool.or_eq_true]
    by_cases hjm : (j : Int) < m.toInt
    · exact Or.inl (h.2 hp j hjm ha2)
    · exact Or.inr (by rw [decide_eq_true_eq]; omega)
theorem gd_fr {b f al m p b' f' : Int32} (hm : iv 0 9 m) (h : gd_I b f al m p) (eb : b' = b) (ef : f' = f) (ha : ((al >>> (m &&& 31)) &&& 1) = 1) : gd_I b' (f' ||| ((1 : Int32) <<< (m &&& 31))) al (m + 1) p := by
  subst eb; subst ef
  refine gd_new hm h (fun j => ?_) ha
  rw [tb_or, tb_or, tb_or, tb_shl1 hm (by decide), Bool.or_assoc]
theorem gd_bk {b f al m p b' f' : Int32} (hm : iv 0 9 m) (h : gd_I b f al m p) (eb : b' = b) (ef : f' = f) (ha : ((al >>> (m &&& 31)) &&& 1) = 1) : gd_I (b' ||| ((1 : Int32) <<< (m &&& 31))) f' al (m + 1) p := by
  subst eb; subst ef
  refine gd_new hm h (fun j => ?_) ha
  rw [tb_or, tb_or, tb_or, tb_shl1 hm (by decide), Bool.or_assoc, Bool.or_assoc, Bool.or_comm (tb f' j)]
theorem gd_end {b f al m p ms : Int32} (h : gd_I b f al m p) (hb : ∀ j, tb al j = true → (j : Int) < ms.toInt) (hl : ms.toInt ≤ m.toInt) (hp : p.toInt = 0) : (b ||| f) = al := by
  refine tb_ext (fun j => ?_)
  cases h1 : tb al j with
  | true => exact h.2 hp j (by have := hb j h1; omega) h1
  | false =>
    cases h2 : tb (b ||| f) j with
    | false => rfl
    | true => rw [h.1 j h2] at h1; cases h1
