/-! Small facts for the model's walks. -/
theorem iv01 {x : Int32} (h : iv 0 1 x) : x = 0 ∨ x = 1 := by
  by_cases h1 : x.toInt = 0
  · exact Or.inl (Int32.toInt_inj.mp (by rw [h1]; decide))
  · exact Or.inr (Int32.toInt_inj.mp (by have := h.1; have := h.2; have h3 : (1 : Int32).toInt = 1 := by decide
                                         omega))
theorem iv_shl0 (y : Int32) : iv 0 0 ((0 : Int32) <<< (y &&& 31)) := by
  have h : (0 : Int32) <<< (y &&& 31) = 0 := by
    apply Int32.toBitVec_inj.mp
    simp
  rw [h]
  exact ⟨by decide, by decide⟩
theorem cmp_lt {x y : Int64} (h : lg_cmp x y < 0) : x.toInt < y.toInt := by
  unfold lg_cmp at h
  split at h
  · exact absurd h (by decide)
  · split at h
    · exact absurd h (by decide)
    · rename_i h1 h2
      rw [gt_iff_lt, Int64.lt_iff_toInt_lt] at h1
      have h3 : x.toInt ≠ y.toInt := fun e => h2 (Int64.toInt_inj.mp e)
      omega
theorem cmp_ge {x y : Int64} (h : 0 ≤ lg_cmp x y) : y.toInt ≤ x.toInt := by
  unfold lg_cmp at h
  split at h
  · rename_i h1
    rw [gt_iff_lt, Int64.lt_iff_toInt_lt] at h1
    omega
  · split at h
    · rename_i h1
      rw [h1]
      exact Int.le_refl _
    · exact absurd h (by decide)
theorem cmp_le {x y : Int64} (h : lg_cmp x y ≤ 0) : x.toInt ≤ y.toInt := by
  unfold lg_cmp at h
  split at h
  · exact absurd h (by decide)
  · rename_i h1
    rw [gt_iff_lt, Int64.lt_iff_toInt_lt] at h1
    omega
theorem cmp_gt {x y : Int64} (h : 0 < lg_cmp x y) : y.toInt < x.toInt := by
  unfold lg_cmp at h
  split at h
  · rename_i h1
    exact Int64.lt_iff_toInt_lt.mp h1
  · split at h
    · exact absurd h (by decide)
    · exact absurd h (by decide)
theorem cmp_nlt {x y : Int64} (h : lg_cmp x y < 0) : ¬ y.toInt ≤ x.toInt := by have := cmp_lt h; omega
theorem cmp_ngt {x y : Int64} (h : 0 < lg_cmp x y) : ¬ x.toInt ≤ y.toInt := by have := cmp_gt h; omega
theorem in_iv {a b : Int} {x : Int32} {lo hi : Int64} (h : lo.toInt ≤ x.toInt64.toInt ∧ x.toInt64.toInt ≤ hi.toInt) (ha : lo.toInt = a) (hb : hi.toInt ≤ b) : iv a b x := by
  rw [w64] at h
  exact ⟨by omega, by omega⟩
theorem shr_zero {b : Int} {x k : Int32} (hk : iv 0 b k) (hx : (0 : Int32).toInt ≤ x.toInt) (hb : b ≤ 30) : (x >>> (k &&& 31)) = 0 ↔ x.toInt < ((1 : Int32) <<< (k &&& 31)).toInt := by
  have h0 : (0 : Int32).toInt = 0 := by decide
  obtain ⟨n, e, e2, hn⟩ := nI_iv (b := x.toInt) (x := x) ⟨by omega, Int.le_refl _⟩
  obtain ⟨m, f, f2, hm⟩ := nI_iv hk
  have hm31 : m < 31 := by have := hk.2; omega
  have h3 : (2 : Nat) ^ m < 2 ^ 31 := Nat.pow_lt_pow_right (by decide) hm31
  rw [f, nI_shl1 hm31, nI_toInt h3, e, nI_toInt hn, pk_shrN hn (nI m &&& 31) m (sm31 m hm31)]
  have h4 : n / 2 ^ m ≤ n := Nat.div_le_self _ _
  have h5 : nI (n / 2 ^ m) = 0 ↔ n / 2 ^ m = 0 := by
    rw [show (0 : Int32) = nI 0 from nI_0.symm]
    exact nI_eq (by omega) (by decide)
  rw [h5, Nat.div_eq_zero_iff]
  have h6 : 0 < (2 : Nat) ^ m := Nat.pos_of_ne_zero (by intro z; simp at z)
  omega
