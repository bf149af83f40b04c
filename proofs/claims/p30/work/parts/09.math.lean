def ac_max (x y : Int32) : Int32 := if x < y then y else x
def ac_min (x y : Int32) : Int32 := if y < x then y else x
theorem iv_max {a b c d : Int} {x y : Int32} (hx : iv a b x) (hy : iv c d y) : iv (max a c) (max b d) (ac_max x y) := by
  have := hx.1; have := hx.2; have := hy.1; have := hy.2
  unfold ac_max
  split
  · rename_i h; have := iv_lt h; exact ⟨by omega, by omega⟩
  · rename_i h; have := iv_nlt h; exact ⟨by omega, by omega⟩
theorem iv_min {a b c d : Int} {x y : Int32} (hx : iv a b x) (hy : iv c d y) : iv (min a c) (min b d) (ac_min x y) := by
  have := hx.1; have := hx.2; have := hy.1; have := hy.2
  unfold ac_min
  split
  · rename_i h; have := iv_lt h; exact ⟨by omega, by omega⟩
  · rename_i h; have := iv_nlt h; exact ⟨by omega, by omega⟩
theorem wm_max : Cond.code Lib.Math.max.name Lib.Math.max.code 2 (some .int) ∈ lw_good ∧ Cond.static Lib.Math.max.name ∈ lw_good ∧ Cond.initialized "java/lang/Math" ∈ lw_good := ⟨lw_t2 183 (by decide +kernel) rfl, lw_t2 182 (by decide +kernel) rfl, lw_t1 10 (by decide +kernel) rfl⟩
theorem wm_min : Cond.code Lib.Math.min.name Lib.Math.min.code 2 (some .int) ∈ lw_good ∧ Cond.static Lib.Math.min.name ∈ lw_good := ⟨lw_t3 116 (by decide +kernel) rfl, lw_t3 115 (by decide +kernel) rfl⟩
theorem at_mmax {E : EV} {cc : ByteArray} {own : String} {h pc i : Nat} {lv : List (Nat × Value)} {st : List Value} {σ : SS} (C : CX E cc own h) {x y : Int32} (hw : Cond.methodLink own i yJ9_max_7cf53 ∈ lw_good) (hh : 1 ≤ h) (hst : (st.map fun v => v.category).sum ≤ 8) (hd : decode cc pc = .ok (.invokestatic i, 3)) (k : AT E (pc + 3) lv (.int (ac_max x y) :: st) σ) : AT E pc lv (.int y :: .int x :: st) σ := fun H locs ls hP hD hS hl => va_mmax C.exec C.byt (by rw [C.mxl, hl.1]) C.ow (C.hts _ hw) (C.hts _ wm_max.2.1) (C.hts _ wm_max.2.2) (C.hts _ wm_max.1) (Nat.le_trans hh C.R.1) (by have := C.R.2; omega) C.cs.1 C.cs.2 hd (k H locs ls hP hD hS hl)
theorem at_mmin {E : EV} {cc : ByteArray} {own : String} {h pc i : Nat} {lv : List (Nat × Value)} {st : List Value} {σ : SS} (C : CX E cc own h) {x y : Int32} (hw : Cond.methodLink own i yJ9_min_7cf53 ∈ lw_good) (hh : 1 ≤ h) (hst : (st.map fun v => v.category).sum ≤ 8) (hd : decode cc pc = .ok (.invokestatic i, 3)) (k : AT E (pc + 3) lv (.int (ac_min x y) :: st) σ) : AT E pc lv (.int y :: .int x :: st) σ := fun H locs ls hP hD hS hl => va_mmin C.exec C.byt (by rw [C.mxl, hl.1]) C.ow (C.hts _ hw) (C.hts _ wm_min.2) (C.hts _ wm_max.2.2) (C.hts _ wm_min.1) (Nat.le_trans hh C.R.1) (by have := C.R.2; omega) C.cs.1 C.cs.2 hd (k H locs ls hP hD hS hl)
theorem iv_of4 {a b : Int} {v h : Int32} (e : 0 ≤ v.toInt ∧ v.toInt ≤ h.toInt) (hh : iv a b h) : iv 0 b v := ⟨e.1, by have := hh.2; omega⟩
