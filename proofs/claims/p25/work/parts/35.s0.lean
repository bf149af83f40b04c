def ac_s0i (k : Nat) : Int32 := match k with
  | 1 => (3 : Int32)
  | 2 => (2000 : Int32)
  | 3 => (1 : Int32)
  | 5 => (100 : Int32)
  | 6 => (10 : Int32)
  | 14 => (1 : Int32)
  | 16 => (3 : Int32)
  | 17 => (2000 : Int32)
  | 20 => (100 : Int32)
  | 21 => (10 : Int32)
  | _ => 0
def ac_m1 : Nat → Int32 := (upd (upd (upd (upd (upd (upd (upd (upd (upd (upd (fun _ => 0) 0 (-1 : Int32)) 1 (-1 : Int32)) 2 (-1 : Int32)) 3 (-1 : Int32)) 4 (-1 : Int32)) 5 (-1 : Int32)) 6 (-1 : Int32)) 7 (-1 : Int32)) 8 (-1 : Int32)) 9 (-1 : Int32))
def ac_s0a (c : Nat) : Nat → Int32 := match c with
  | 27 => ac_m1
  | 28 => ac_m1
  | 48 => ac_m1
  | 49 => ac_m1
  | _ => fun _ => 0
def ac_s0 : SS := (ac_s0i, (ac_s0a, 0))
theorem il_big {k : Nat} (h : 28 ≤ k) : ac_il k = -2147483648 := by
  unfold ac_il
  split <;> first | rfl | omega
theorem ih_big {k : Nat} (h : 28 ≤ k) : ac_ih k = 2147483647 := by
  unfold ac_ih
  split <;> first | rfl | omega
theorem s0_ints : ∀ k, k < 28 → ac_il k ≤ (ac_s0i k).toInt ∧ (ac_s0i k).toInt ≤ ac_ih k := by decide +kernel
theorem s0_rows : ∀ c, c < 52 → ac_al c = -2147483648 ∧ ac_ah c = 2147483647 ∨ (ac_al c ≤ 0 ∧ 0 ≤ ac_ah c) := by decide +kernel
theorem al_big {c : Nat} (h : 52 ≤ c) : ac_al c = -2147483648 ∧ ac_ah c = 2147483647 := by
  constructor
  · unfold ac_al
    split <;> first | rfl | omega
  · unfold ac_ah
    split <;> first | rfl | omega
theorem s0a_zero {c : Nat} (h : c ≠ 27 ∧ c ≠ 28 ∧ c ≠ 48 ∧ c ≠ 49) (j : Nat) : ac_s0a c j = 0 := by
  unfold ac_s0a
  split <;> first | rfl | omega
theorem upd_iv {a b : Int} {f : Nat → Int32} {i : Nat} {v : Int32} (h : ∀ j, iv a b (f j)) (hv : iv a b v) : ∀ j, iv a b (upd f i v j) := fun j => by
  unfold upd
  split
  · exact hv
  · exact h j
theorem m1_iv : ∀ j, iv (-1) 5 (ac_m1 j) := by
  have h1 : iv (-1) 5 (-1 : Int32) := ⟨by decide, by decide⟩
  have h0 : ∀ j : Nat, iv (-1) 5 ((fun _ => 0 : Nat → Int32) j) := fun j => show iv (-1) 5 (0 : Int32) from ⟨by decide, by decide⟩
  exact upd_iv (upd_iv (upd_iv (upd_iv (upd_iv (upd_iv (upd_iv (upd_iv (upd_iv (upd_iv h0 h1) h1) h1) h1) h1) h1) h1) h1) h1) h1
theorem s0_m1 {c : Nat} (h : c = 27 ∨ c = 28 ∨ c = 48 ∨ c = 49) (j : Nat) : iv (ac_al c) (ac_ah c) (ac_s0a c j) := by
  rcases h with h | h | h | h <;> subst h <;> exact m1_iv j
theorem s0_inv : Inv ac_s0 := by
  refine ⟨fun k => ?_, fun c j => ?_⟩
  · by_cases h : k < 28
    · exact s0_ints k h
    · rw [il_big (by omega), ih_big (by omega)]
      exact iv_any _
  · by_cases h : c < 52
    · by_cases h3 : c = 27 ∨ c = 28 ∨ c = 48 ∨ c = 49
      · exact s0_m1 h3 j
      · rcases s0_rows c h with ⟨h1, h2⟩ | ⟨h1, h2⟩
        · rw [h1, h2]
          exact iv_any _
        · show iv _ _ (ac_s0a c j)
          rw [s0a_zero (by omega)]
          exact ⟨h1, h2⟩
    · rw [(al_big (by omega)).1, (al_big (by omega)).2]
      exact iv_any _
theorem s0_ok : Ok ac_s0 := by
  refine ⟨s0_inv, ⟨rfl, rfl, rfl, rfl, rfl, rfl, rfl⟩, ⟨rfl, rfl, rfl, rfl, rfl, rfl, rfl, rfl, rfl, rfl⟩, ?_, (fun j hj => by have hj : tb 0 j = true := hj; rw [tb_0] at hj; cases hj), ⟨fun _ _ => rfl, fun z => absurd z (by show ¬ (1 : Int32) = 0; decide)⟩⟩
  have h : ∀ j : Nat, j < 10 → (((ac_s0i 4 >>> (nI j &&& 31)) &&& 1) = 0 ↔ ac_s0a 36 j = 0) := by decide +kernel
  exact h
