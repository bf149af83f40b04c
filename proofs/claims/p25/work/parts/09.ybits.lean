/-! Bits. -/
theorem iv01 {x : Int32} (h : iv 0 1 x) : x = 0 ∨ x = 1 := by
  by_cases h1 : x.toInt = 0
  · exact Or.inl (Int32.toInt_inj.mp (by rw [h1]; decide))
  · exact Or.inr (Int32.toInt_inj.mp (by have := h.1; have := h.2; have h3 : (1 : Int32).toInt = 1 := by decide
                                         omega))
theorem sm31b : ∀ m, m < 31 → ((nI m &&& 31).toBitVec.smod 32).toNat = m := sm31
theorem bit_tb {x : Int32} {j : Nat} (hj : j < 31) : ((x >>> (nI j &&& 31)) &&& 1) = 0 ↔ x.toBitVec.toNat.testBit j = false := by
  have h1 : (x >>> (nI j &&& 31)).toBitVec.toNat.testBit 0 = x.toBitVec.toNat.testBit j := by
    have h2 : (x >>> (nI j &&& 31)).toBitVec = x.toBitVec.sshiftRight j := by
      rw [Int32.toBitVec_shiftRight]
      unfold BitVec.sshiftRight'
      rw [sm31b j hj]
    rw [h2]
    show (x.toBitVec.sshiftRight j).toNat.testBit 0 = _
    rw [BitVec.testBit_toNat, BitVec.getLsbD_sshiftRight, BitVec.testBit_toNat]
    have h3 : 0 + j < 32 := by omega
    simp only [show ¬ (32 ≤ 0) from by decide, decide_false, Bool.not_false, Bool.true_and]
    rw [if_pos (by omega)]
    congr 1
  rw [← h1, nI_all (x >>> (nI j &&& 31)), show (1 : Int32) = nI 1 from rfl, nI_and, Nat.and_one_is_mod]
  have h4 : (x >>> (nI j &&& 31)).toBitVec.toNat % 2 < 2 := Nat.mod_lt _ (by decide)
  rw [show (0 : Int32) = nI 0 from nI_0.symm, nI_eq (by omega) (by decide), Nat.testBit_zero]
  rw [pk_tn (by exact (x >>> (nI j &&& 31)).toBitVec.isLt)]
  simp
def tb (x : Int32) (j : Nat) : Bool := x.toBitVec.toNat.testBit j
theorem tb_or (x y : Int32) (j : Nat) : tb (x ||| y) j = (tb x j || tb y j) := by
  unfold tb
  rw [show (x ||| y).toBitVec = x.toBitVec ||| y.toBitVec from rfl, BitVec.toNat_or, Nat.testBit_or]
theorem tb_and (x y : Int32) (j : Nat) : tb (x &&& y) j = (tb x j && tb y j) := by
  unfold tb
  rw [show (x &&& y).toBitVec = x.toBitVec &&& y.toBitVec from rfl, BitVec.toNat_and, Nat.testBit_and]
theorem tb_0 (j : Nat) : tb 0 j = false := by
  unfold tb
  rw [show (0 : Int32).toBitVec.toNat = 0 from rfl]
  exact Nat.zero_testBit j
theorem tb_shl0 (y : Int32) (j : Nat) : tb ((0 : Int32) <<< (y &&& 31)) j = false := by
  have h : (0 : Int32) <<< (y &&& 31) = 0 := by
    apply Int32.toBitVec_inj.mp
    simp
  rw [h]
  exact tb_0 j
theorem tb_shl1 {b : Int} {y : Int32} (hy : iv 0 b y) (hb : b ≤ 30) (j : Nat) : tb ((1 : Int32) <<< (y &&& 31)) j = decide (y.toNatClampNeg = j) := by
  obtain ⟨m, g, g2, hm⟩ := nI_iv hy
  have hm31 : m < 31 := by have := hy.2; omega
  have hcl : y.toNatClampNeg = m := by rw [g]; exact nI_clamp hm
  have h3 : (2 : Nat) ^ m < 2 ^ 31 := Nat.pow_lt_pow_right (by decide) hm31
  rw [hcl, g, nI_shl1 hm31]
  unfold tb
  rw [pk_tn (by omega), Nat.testBit_two_pow]
theorem tb_ext {x y : Int32} (h : ∀ j, tb x j = tb y j) : x = y := by
  apply Int32.toBitVec_inj.mp
  apply BitVec.eq_of_toNat_eq
  exact Nat.eq_of_testBit_eq h
theorem tb_bit0 {b : Int} {x m : Int32} (hm : iv 0 b m) (hb : b ≤ 30) : ((x >>> (m &&& 31)) &&& 1) = 0 ↔ tb x m.toNatClampNeg = false := by
  obtain ⟨n, g, g2, hn⟩ := nI_iv hm
  have hn31 : n < 31 := by have := hm.2; omega
  have hcl : m.toNatClampNeg = n := by rw [g]; exact nI_clamp hn
  rw [hcl, g]
  exact bit_tb hn31
theorem tb_bit1 {b : Int} {x m : Int32} (hm : iv 0 b m) (hb : b ≤ 30) : ((x >>> (m &&& 31)) &&& 1) = 1 ↔ tb x m.toNatClampNeg = true := by
  have h := tb_bit0 (x := x) hm hb
  have h1 : iv 0 1 ((x >>> (m &&& 31)) &&& 1) := iv_andr (iv_wk (c := 0) (iv_c (c := 1) (x := (1 : Int32)) (by decide)) (by decide) (Int.le_refl _))
  rcases iv01 h1 with e | e
  · rw [e]
    constructor
    · intro z; exact absurd z (by decide)
    · intro z; rw [h.mp e] at z; cases z
  · rw [e]
    refine ⟨fun _ => ?_, fun _ => rfl⟩
    cases ht : tb x m.toNatClampNeg with
    | true => rfl
    | false => exact absurd (e.symm.trans (h.mpr ht)) (by decide)
