set_option maxHeartbeats 4000000 in
set_option maxRecDepth 100000 in
theorem ct_X7_in (σ : SS) (x1 : Int64) (x2 : Int64) (x3 : Int64) : ConI yX7_in cX7_in 6 (some .boolean) 0 none [.long x1, .long x2, .long x3] σ (fun r σ' => σ = σ' ∧ ((r = 1 ∧ ((x2).toInt ≤ (x1).toInt ∧ (x1).toInt ≤ (x3).toInt)) ∨ (r = 0 ∧ ¬ ((x2).toInt ≤ (x1).toInt ∧ (x1).toInt ≤ (x3).toInt)))) := by
  refine conZ_of (by decide) (fun q => Nat.le_of_ble_eq_true rfl) (fun r u h => by rcases h.2 with h | h; exact Or.inr h.1; exact Or.inl h.1) (fun E C en hR => ?_)
  refine at_lload_n C 0 dX7_in_0 rfl ?_
  refine at_lload_n C 1 dX7_in_1 rfl ?_
  refine at_lcmp C dX7_in_2 ?_
  refine at_if_lt C 17 dX7_in_3 (by decide) (fun c43 => ?_) (fun c43 => ?_)
  · have f44 : iv (-2147483648) (-1) (lg_cmp x1 x2) := (iv_ltl (iv_any (lg_cmp x1 x2)) (iv_c (c := 0) (x := (0 : Int32)) (by decide)) c43)
    refine at_iconst C (0 : Int32) dX7_in_17 (by decide) ?_
    exact hR _ _ _ _ dX7_in_18 ⟨rfl, Or.inr ⟨rfl, (fun z => cmp_nlt c43 z.1)⟩⟩
  · have f45 : iv 0 2147483647 (lg_cmp x1 x2) := (iv_ler (iv_c (c := 0) (x := (0 : Int32)) (by decide)) (iv_any (lg_cmp x1 x2)) (Int32.not_lt.mp c43))
    refine at_lload_n C 0 dX7_in_6 rfl ?_
    refine at_lload C 2 dX7_in_7 rfl ?_
    refine at_lcmp C dX7_in_9 ?_
    refine at_if_gt C 17 dX7_in_10 (by decide) (fun c46 => ?_) (fun c46 => ?_)
    · have f47 : iv 1 2147483647 (lg_cmp x1 x3) := (iv_ltr (iv_c (c := 0) (x := (0 : Int32)) (by decide)) (iv_any (lg_cmp x1 x3)) c46)
      refine at_iconst C (0 : Int32) dX7_in_17 (by decide) ?_
      exact hR _ _ _ _ dX7_in_18 ⟨rfl, Or.inr ⟨rfl, (fun z => cmp_ngt c46 z.2)⟩⟩
    · have f48 : iv (-2147483648) 0 (lg_cmp x1 x3) := (iv_lel (iv_any (lg_cmp x1 x3)) (iv_c (c := 0) (x := (0 : Int32)) (by decide)) (Int32.not_lt.mp c46))
      refine at_iconst C (1 : Int32) dX7_in_13 (by decide) ?_
      refine at_goto C 18 dX7_in_14 (by decide) ?_
      exact hR _ _ _ _ dX7_in_18 ⟨rfl, Or.inl ⟨rfl, ⟨cmp_ge (Int32.not_lt.mp c43), cmp_le (Int32.not_lt.mp c46)⟩⟩⟩
set_option maxHeartbeats 4000000 in
set_option maxRecDepth 100000 in
theorem ct_X7_one (σ : SS) (x1 : Int32) (hI : Inv σ) : ConI yX7_one cX7_one 1 (some .int) 0 none [.int x1] σ (fun r σ' => ((x1 = 0) ∧ r = (0 : Int32) ∧ σ = σ') ∨ ((¬ x1 = 0) ∧ r = (1 : Int32) ∧ σ = σ')) := by
  refine conI_of (by decide) (fun q => Nat.le_of_ble_eq_true rfl) (fun E C en hR => ?_)
  refine at_iload_n C 0 dX7_one_0 rfl ?_
  refine at_if_eq C 8 dX7_one_1 (by decide) (fun c15 => ?_) (fun c15 => ?_)
  · have f16 : iv 0 0 x1 := (iv_eql (iv_c (c := 0) (x := (0 : Int32)) (by decide)) c15)
    refine at_iconst C (0 : Int32) dX7_one_8 (by decide) ?_
    exact hR _ _ _ _ dX7_one_9 (Or.inl ⟨c15, rfl, rfl⟩)
  · refine at_iconst C (1 : Int32) dX7_one_4 (by decide) ?_
    refine at_goto C 9 dX7_one_5 (by decide) ?_
    exact hR _ _ _ _ dX7_one_9 (Or.inr ⟨c15, rfl, rfl⟩)
set_option maxHeartbeats 4000000 in
set_option maxRecDepth 100000 in
theorem ct_X7_noMast (σ : SS) (x1 : Int32) (hI : Inv σ) : ConI yX7_noMast cX7_noMast 2 (some .boolean) 1 (some 30) [.int x1] σ (fun r σ' => σ = σ' ∧ ((r = 1 ∧ (¬ (0 ≤ (x1).toInt ∧ (x1).toInt < (ac_gi σ 15).toInt))) ∨ (r = 0 ∧ ¬ (¬ (0 ≤ (x1).toInt ∧ (x1).toInt < (ac_gi σ 15).toInt))))) := by
  refine conZ_of (by decide) (fun q => Nat.le_of_ble_eq_true rfl) (fun r u h => by rcases h.2 with h | h; exact Or.inr h.1; exact Or.inl h.1) (fun E C en hR => ?_)
  refine at_iload_n C 1 dX7_noMast_0 rfl ?_
  refine at_i2l C dX7_noMast_1 ?_
  refine at_lconst C (0 : Int64) dX7_noMast_2 (by decide) ?_
  refine at_aload_n C 0 dX7_noMast_3 rfl ?_
  refine gf_X7_87 C dX7_noMast_4 ?_
  refine at_iconst C (1 : Int32) dX7_noMast_7 (by decide) ?_
  refine at_isub C dX7_noMast_8 ?_
  refine at_i2l C dX7_noMast_9 ?_
  refine at_Si C (As := [.long (x1).toInt64, .long (0 : Int64), .long (((ac_gi σ 15) - (1 : Int32))).toInt64]) (st := []) (ct_X7_in σ (x1).toInt64 (0 : Int64) (((ac_gi σ 15) - (1 : Int32))).toInt64) mb_X7_in ml_X7_90 rfl (by decide) rfl (Nat.le_of_ble_eq_true rfl) dX7_noMast_10 ?_
  rintro _ _ ⟨rfl, ⟨rfl, c36⟩ | ⟨rfl, c36⟩⟩
  · have f38 : iv 0 9 x1 := (in_iv c36 (by decide) (by rw [w64]; exact (show iv (-1) 9 ((ac_gi σ 15) - (1 : Int32)) from (iv_sub (show iv 0 10 (ac_gi σ 15) from hI.1 15) (iv_c (c := 1) (x := (1 : Int32)) (by decide)) (by decide) (by decide))).2))
    refine at_if_ne C 20 dX7_noMast_13 (by decide) (fun c39 => ?_) (fun c39 => absurd c39 (iv_xeq (iv_c (c := 1) (x := (1 : Int32)) (by decide)) (iv_c (c := 0) (x := (0 : Int32)) (by decide)) (by decide)))
    refine at_iconst C (0 : Int32) dX7_noMast_20 (by decide) ?_
    exact hR _ _ _ _ dX7_noMast_21 ⟨rfl, Or.inr ⟨rfl, (by have q1 := c36; have q2 := w64 x1; have q3 := w64 (ac_gi σ 15 - (1 : Int32)); have q4 := ti_sub (show iv 0 10 (ac_gi σ 15) from hI.1 15) (iv_c (c := 1) (x := (1 : Int32)) (by decide)) (by decide) (by decide); have q5 : (1 : Int32).toInt = 1 := (by decide); have q6 : (0 : Int64).toInt = 0 := (by decide); omega)⟩⟩
  · refine at_if_ne C 20 dX7_noMast_13 (by decide) (fun c40 => absurd (iv_xne (iv_c (c := 0) (x := (0 : Int32)) (by decide)) (iv_c (c := 0) (x := (0 : Int32)) (by decide))) c40) (fun c40 => ?_)
    refine at_iconst C (1 : Int32) dX7_noMast_16 (by decide) ?_
    refine at_goto C 21 dX7_noMast_17 (by decide) ?_
    exact hR _ _ _ _ dX7_noMast_21 ⟨rfl, Or.inl ⟨rfl, (by have q1 := c36; have q2 := w64 x1; have q3 := w64 (ac_gi σ 15 - (1 : Int32)); have q4 := ti_sub (show iv 0 10 (ac_gi σ 15) from hI.1 15) (iv_c (c := 1) (x := (1 : Int32)) (by decide)) (by decide) (by decide); have q5 : (1 : Int32).toInt = 1 := (by decide); have q6 : (0 : Int64).toInt = 0 := (by decide); omega)⟩⟩
set_option maxHeartbeats 4000000 in
set_option maxRecDepth 100000 in
theorem ct_X7_noHouse (σ : SS) (x1 : Int32) (hI : Inv σ) : ConI yX7_noHouse cX7_noHouse 2 (some .boolean) 1 (some 30) [.int x1] σ (fun r σ' => σ = σ' ∧ ((r = 1 ∧ (¬ (0 ≤ (x1).toInt ∧ (x1).toInt < (ac_gi σ 25).toInt))) ∨ (r = 0 ∧ ¬ (¬ (0 ≤ (x1).toInt ∧ (x1).toInt < (ac_gi σ 25).toInt))))) := by
  refine conZ_of (by decide) (fun q => Nat.le_of_ble_eq_true rfl) (fun r u h => by rcases h.2 with h | h; exact Or.inr h.1; exact Or.inl h.1) (fun E C en hR => ?_)
  refine at_iload_n C 1 dX7_noHouse_0 rfl ?_
  refine at_i2l C dX7_noHouse_1 ?_
  refine at_lconst C (0 : Int64) dX7_noHouse_2 (by decide) ?_
  refine at_aload_n C 0 dX7_noHouse_3 rfl ?_
  refine gf_X7_183 C dX7_noHouse_4 ?_
  refine at_iconst C (1 : Int32) dX7_noHouse_7 (by decide) ?_
  refine at_isub C dX7_noHouse_8 ?_
  refine at_i2l C dX7_noHouse_9 ?_
  refine at_Si C (As := [.long (x1).toInt64, .long (0 : Int64), .long (((ac_gi σ 25) - (1 : Int32))).toInt64]) (st := []) (ct_X7_in σ (x1).toInt64 (0 : Int64) (((ac_gi σ 25) - (1 : Int32))).toInt64) mb_X7_in ml_X7_90 rfl (by decide) rfl (Nat.le_of_ble_eq_true rfl) dX7_noHouse_10 ?_
  rintro _ _ ⟨rfl, ⟨rfl, c36⟩ | ⟨rfl, c36⟩⟩
  · have f38 : iv 0 5 x1 := (in_iv c36 (by decide) (by rw [w64]; exact (show iv (-1) 5 ((ac_gi σ 25) - (1 : Int32)) from (iv_sub (show iv 0 6 (ac_gi σ 25) from hI.1 25) (iv_c (c := 1) (x := (1 : Int32)) (by decide)) (by decide) (by decide))).2))
    refine at_if_ne C 20 dX7_noHouse_13 (by decide) (fun c39 => ?_) (fun c39 => absurd c39 (iv_xeq (iv_c (c := 1) (x := (1 : Int32)) (by decide)) (iv_c (c := 0) (x := (0 : Int32)) (by decide)) (by decide)))
    refine at_iconst C (0 : Int32) dX7_noHouse_20 (by decide) ?_
    exact hR _ _ _ _ dX7_noHouse_21 ⟨rfl, Or.inr ⟨rfl, (by have q1 := c36; have q2 := w64 x1; have q3 := w64 (ac_gi σ 25 - (1 : Int32)); have q4 := ti_sub (show iv 0 6 (ac_gi σ 25) from hI.1 25) (iv_c (c := 1) (x := (1 : Int32)) (by decide)) (by decide) (by decide); have q5 : (1 : Int32).toInt = 1 := (by decide); have q6 : (0 : Int64).toInt = 0 := (by decide); omega)⟩⟩
  · refine at_if_ne C 20 dX7_noHouse_13 (by decide) (fun c40 => absurd (iv_xne (iv_c (c := 0) (x := (0 : Int32)) (by decide)) (iv_c (c := 0) (x := (0 : Int32)) (by decide))) c40) (fun c40 => ?_)
    refine at_iconst C (1 : Int32) dX7_noHouse_16 (by decide) ?_
    refine at_goto C 21 dX7_noHouse_17 (by decide) ?_
    exact hR _ _ _ _ dX7_noHouse_21 ⟨rfl, Or.inl ⟨rfl, (by have q1 := c36; have q2 := w64 x1; have q3 := w64 (ac_gi σ 25 - (1 : Int32)); have q4 := ti_sub (show iv 0 6 (ac_gi σ 25) from hI.1 25) (iv_c (c := 1) (x := (1 : Int32)) (by decide)) (by decide) (by decide); have q5 : (1 : Int32).toInt = 1 := (by decide); have q6 : (0 : Int64).toInt = 0 := (by decide); omega)⟩⟩
set_option maxHeartbeats 4000000 in
set_option maxRecDepth 100000 in
theorem ct_X7_noSet (σ : SS) (x1 : Int32) (hI : Inv σ) : ConI yX7_noSet cX7_noSet 2 (some .boolean) 0 (some 30) [.int x1] σ (fun r σ' => σ = σ' ∧ ((r = 1 ∧ (¬ (0 ≤ (x1).toInt ∧ (x1).toInt < ((1 : Int32) <<< (ac_gi σ 15 &&& 31)).toInt))) ∨ (r = 0 ∧ ¬ (¬ (0 ≤ (x1).toInt ∧ (x1).toInt < ((1 : Int32) <<< (ac_gi σ 15 &&& 31)).toInt))))) := by
  refine conZ_of (by decide) (fun q => Nat.le_of_ble_eq_true rfl) (fun r u h => by rcases h.2 with h | h; exact Or.inr h.1; exact Or.inl h.1) (fun E C en hR => ?_)
  refine at_iload_n C 1 dX7_noSet_0 rfl ?_
  refine at_if_lt C 13 dX7_noSet_1 (by decide) (fun c43 => ?_) (fun c43 => ?_)
  · have f44 : iv (-2147483648) (-1) x1 := (iv_ltl (iv_any x1) (iv_c (c := 0) (x := (0 : Int32)) (by decide)) c43)
    refine at_iconst C (1 : Int32) dX7_noSet_13 (by decide) ?_
    refine at_goto C 18 dX7_noSet_14 (by decide) ?_
    exact hR _ _ _ _ dX7_noSet_18 ⟨rfl, Or.inl ⟨rfl, (fun z => by have q := iv_lt c43; have q2 : (0 : Int32).toInt = 0 := (by decide); omega)⟩⟩
  · have f45 : iv 0 2147483647 x1 := (iv_ler (iv_c (c := 0) (x := (0 : Int32)) (by decide)) (iv_any x1) (Int32.not_lt.mp c43))
    refine at_iload_n C 1 dX7_noSet_4 rfl ?_
    refine at_aload_n C 0 dX7_noSet_5 rfl ?_
    refine gf_X7_87 C dX7_noSet_6 ?_
    refine at_ishr C dX7_noSet_9 ?_
    refine at_if_eq C 17 dX7_noSet_10 (by decide) (fun c46 => ?_) (fun c46 => ?_)
    · have f47 : iv 0 0 (x1 >>> ((ac_gi σ 15) &&& 31)) := (iv_eql (iv_c (c := 0) (x := (0 : Int32)) (by decide)) c46)
      refine at_iconst C (0 : Int32) dX7_noSet_17 (by decide) ?_
      exact hR _ _ _ _ dX7_noSet_18 ⟨rfl, Or.inr ⟨rfl, (fun z => z ⟨iv_le (Int32.not_lt.mp c43), (shr_zero (show iv 0 10 (ac_gi σ 15) from hI.1 15) (iv_le (Int32.not_lt.mp c43)) (by decide)).mp c46⟩)⟩⟩
    · have f48 : iv 1 2147483647 (x1 >>> ((ac_gi σ 15) &&& 31)) := (iv_nel (iv_shr f45) (by decide) c46)
      refine at_iconst C (1 : Int32) dX7_noSet_13 (by decide) ?_
      refine at_goto C 18 dX7_noSet_14 (by decide) ?_
      exact hR _ _ _ _ dX7_noSet_18 ⟨rfl, Or.inl ⟨rfl, (fun z => c46 ((shr_zero (show iv 0 10 (ac_gi σ 15) from hI.1 15) (iv_le (Int32.not_lt.mp c43)) (by decide)).mpr z.2))⟩⟩
set_option maxHeartbeats 4000000 in
set_option maxRecDepth 100000 in
theorem ct_X7_noGroup (σ : SS) (x1 : Int32) (hI : Inv σ) : ConI yX7_noGroup cX7_noGroup 2 (some .boolean) 0 (some 30) [.int x1] σ (fun r σ' => σ = σ' ∧ ((r = 1 ∧ (¬ (0 ≤ (x1).toInt ∧ (x1).toInt < ((1 : Int32) <<< (ac_gi σ 25 &&& 31)).toInt))) ∨ (r = 0 ∧ ¬ (¬ (0 ≤ (x1).toInt ∧ (x1).toInt < ((1 : Int32) <<< (ac_gi σ 25 &&& 31)).toInt))))) := by
  refine conZ_of (by decide) (fun q => Nat.le_of_ble_eq_true rfl) (fun r u h => by rcases h.2 with h | h; exact Or.inr h.1; exact Or.inl h.1) (fun E C en hR => ?_)
  refine at_iload_n C 1 dX7_noGroup_0 rfl ?_
  refine at_if_lt C 13 dX7_noGroup_1 (by decide) (fun c43 => ?_) (fun c43 => ?_)
  · have f44 : iv (-2147483648) (-1) x1 := (iv_ltl (iv_any x1) (iv_c (c := 0) (x := (0 : Int32)) (by decide)) c43)
    refine at_iconst C (1 : Int32) dX7_noGroup_13 (by decide) ?_
    refine at_goto C 18 dX7_noGroup_14 (by decide) ?_
    exact hR _ _ _ _ dX7_noGroup_18 ⟨rfl, Or.inl ⟨rfl, (fun z => by have q := iv_lt c43; have q2 : (0 : Int32).toInt = 0 := (by decide); omega)⟩⟩
  · have f45 : iv 0 2147483647 x1 := (iv_ler (iv_c (c := 0) (x := (0 : Int32)) (by decide)) (iv_any x1) (Int32.not_lt.mp c43))
    refine at_iload_n C 1 dX7_noGroup_4 rfl ?_
    refine at_aload_n C 0 dX7_noGroup_5 rfl ?_
    refine gf_X7_183 C dX7_noGroup_6 ?_
    refine at_ishr C dX7_noGroup_9 ?_
    refine at_if_eq C 17 dX7_noGroup_10 (by decide) (fun c46 => ?_) (fun c46 => ?_)
    · have f47 : iv 0 0 (x1 >>> ((ac_gi σ 25) &&& 31)) := (iv_eql (iv_c (c := 0) (x := (0 : Int32)) (by decide)) c46)
      refine at_iconst C (0 : Int32) dX7_noGroup_17 (by decide) ?_
      exact hR _ _ _ _ dX7_noGroup_18 ⟨rfl, Or.inr ⟨rfl, (fun z => z ⟨iv_le (Int32.not_lt.mp c43), (shr_zero (show iv 0 6 (ac_gi σ 25) from hI.1 25) (iv_le (Int32.not_lt.mp c43)) (by decide)).mp c46⟩)⟩⟩
    · have f48 : iv 1 2147483647 (x1 >>> ((ac_gi σ 25) &&& 31)) := (iv_nel (iv_shr f45) (by decide) c46)
      refine at_iconst C (1 : Int32) dX7_noGroup_13 (by decide) ?_
      refine at_goto C 18 dX7_noGroup_14 (by decide) ?_
      exact hR _ _ _ _ dX7_noGroup_18 ⟨rfl, Or.inl ⟨rfl, (fun z => c46 ((shr_zero (show iv 0 6 (ac_gi σ 25) from hI.1 25) (iv_le (Int32.not_lt.mp c43)) (by decide)).mpr z.2))⟩⟩
set_option maxHeartbeats 4000000 in
set_option maxRecDepth 100000 in
theorem ct_X7_breaks (σ : SS) (x1 : Int32) (x2 : Int32) (x3 : Int32) (x4 : Int32) (hI : Inv σ) (g1 : iv 0 9 x1) (g2 : iv 0 9 x2) : ConI yX7_breaks cX7_breaks 6 (some .boolean) 0 (some 30) [.int x1, .int x2, .int x3, .int x4] σ (fun r σ' => σ = σ' ∧ (r = 0 ∨ r = 1)) := by
  refine conZ_of (by decide) (fun q => Nat.le_of_ble_eq_true rfl) (fun r u h => h.2) (fun E C en hR => ?_)
  have hn5 : 5 < e_n E := by rw [en]; decide
  have K17 : ∀ (z0_17 : Int32), iv (-2147483648) 2147483647 z0_17 → AT E 17 [(0, .ref (e_q E 30)), (1, .int x1), (2, .int x2)] [.int z0_17] σ := by
    intro z0_17 bz0_17
    refine at_istore C (lv' := [(5, .int z0_17), (0, .ref (e_q E 30)), (1, .int x1), (2, .int x2)]) dX7_breaks_17 hn5 rfl ?_
    refine at_iload C 0 dX7_breaks_19 rfl ?_
    refine at_aload_n C 1 dX7_breaks_21 rfl ?_
    refine gf_X7_16 C dX7_breaks_22 ?_
    refine at_bipush C (10 : Int32) dX7_breaks_25 (by decide) ?_
    refine at_iload_n C 2 dX7_breaks_27 rfl ?_
    refine at_imul C dX7_breaks_28 ?_
    refine at_iload_n C 3 dX7_breaks_29 rfl ?_
    refine at_iadd C dX7_breaks_30 ?_
    refine at_iald C (c := 31) rfl (iv_in (n := 100) (iv_add (iv_mul (iv_wk (c := 0) (iv_c (c := 10) (x := (10 : Int32)) (by decide)) (by decide) (Int.le_refl _)) g1 (by decide)) g2 (by decide) (by decide)) (by decide) (by decide)) dX7_breaks_31 ?_
    refine at_icmp_ge C 39 dX7_breaks_32 (by decide) (fun c49 => ?_) (fun c49 => ?_)
    · refine at_iconst C (0 : Int32) dX7_breaks_39 (by decide) ?_
      exact hR _ _ _ _ dX7_breaks_40 ⟨rfl, Or.inl rfl⟩
    · have f50 : iv (-2147483648) 2147483646 z0_17 := (iv_ltl bz0_17 (iv_any (ac_ga σ 31 ((((10 : Int32) * x1) + x2)).toNatClampNeg)) (Int32.not_le.mp c49))
      have f51 : iv (-2147483647) 2147483647 (ac_ga σ 31 ((((10 : Int32) * x1) + x2)).toNatClampNeg) := (iv_ltr bz0_17 (iv_any (ac_ga σ 31 ((((10 : Int32) * x1) + x2)).toNatClampNeg)) (Int32.not_le.mp c49))
      refine at_iconst C (1 : Int32) dX7_breaks_35 (by decide) ?_
      refine at_goto C 40 dX7_breaks_36 (by decide) ?_
      exact hR _ _ _ _ dX7_breaks_40 ⟨rfl, Or.inr rfl⟩
  refine at_iload_n C 3 dX7_breaks_0 rfl ?_
  refine at_iload C 4 dX7_breaks_1 rfl ?_
  refine at_icmp_le C 13 dX7_breaks_3 (by decide) (fun c52 => ?_) (fun c52 => ?_)
  · refine at_iload C 4 dX7_breaks_13 rfl ?_
    refine at_iload_n C 3 dX7_breaks_15 rfl ?_
    refine at_isub C dX7_breaks_16 ?_
    exact at_sub [0, 1, 2] rfl (K17 (x4 - x3) (show iv (-2147483648) 2147483647 (x4 - x3) from (iv_any (x4 - x3))))
  · have f53 : iv (-2147483648) 2147483646 x4 := (iv_ltl (iv_any x4) (iv_any x3) (Int32.not_le.mp c52))
    have f54 : iv (-2147483647) 2147483647 x3 := (iv_ltr (iv_any x4) (iv_any x3) (Int32.not_le.mp c52))
    refine at_iload_n C 3 dX7_breaks_6 rfl ?_
    refine at_iload C 4 dX7_breaks_7 rfl ?_
    refine at_isub C dX7_breaks_9 ?_
    refine at_goto C 17 dX7_breaks_10 (by decide) ?_
    exact at_sub [0, 1, 2] rfl (K17 (x3 - x4) (show iv (-2147483648) 2147483647 (x3 - x4) from (iv_any (x3 - x4))))
set_option maxHeartbeats 4000000 in
set_option maxRecDepth 100000 in
theorem ct_X7_ones (σ : SS) (x1 : Int32) (hI : Inv σ) : ConI yX7_ones cX7_ones 3 (some .int) 0 none [.int x1] σ (fun r σ' => σ = σ' ∧ iv (-2147483648) 2147483647 r ∧ (r = on_f x1 16)) := by
  refine conI_of (by decide) (fun q => Nat.le_of_ble_eq_true rfl) (fun E C en hR => ?_)
  have hn1 : 1 < e_n E := by rw [en]; decide
  have hn2 : 2 < e_n E := by rw [en]; decide
  have K4 : ∀ (n4 : Nat) (y1_4 : Int32) (y2_4 : Int32), (16 - (y2_4).toInt).toNat < n4 → iv (-2147483648) 2147483647 y1_4 → iv 0 16 y2_4 → (y1_4 = on_f x1 (y2_4).toNatClampNeg) → AT E 4 [(0, .int x1), (1, .int y1_4), (2, .int y2_4)] [] σ := by
    intro n4
    induction n4 with
    | zero => intro y1_4 y2_4 hm; exact absurd hm (Nat.not_lt_zero _)
    | succ n4 ih4 =>
      intro y1_4 y2_4 hm4 b1_4 b2_4 e0_4
      refine at_iload_n C 2 dX7_ones_4 rfl ?_
      refine at_bipush C (16 : Int32) dX7_ones_5 (by decide) ?_
      refine at_icmp_ge C 24 dX7_ones_7 (by decide) (fun c96 => ?_) (fun c96 => ?_)
      · have f97 : iv 16 16 y2_4 := (iv_ler (iv_c (c := 16) (x := (16 : Int32)) (by decide)) b2_4 c96)
        refine at_iload_n C 1 dX7_ones_24 rfl ?_
        exact hR _ _ _ _ dX7_ones_25 ⟨rfl, (show iv (-2147483648) 2147483647 y1_4 from b1_4), (by have q := iv_16 (show iv 16 16 y2_4 from f97); have q2 := e0_4; rw [q] at q2; exact q2)⟩
      · have f98 : iv 0 15 y2_4 := (iv_ltl b2_4 (iv_c (c := 16) (x := (16 : Int32)) (by decide)) (Int32.not_le.mp c96))
        refine at_iload_n C 1 dX7_ones_10 rfl ?_
        refine at_iload_n C 0 dX7_ones_11 rfl ?_
        refine at_iload_n C 2 dX7_ones_12 rfl ?_
        refine at_ishr C dX7_ones_13 ?_
        refine at_iconst C (1 : Int32) dX7_ones_14 (by decide) ?_
        refine at_iand C dX7_ones_15 ?_
        refine at_iadd C dX7_ones_16 ?_
        refine at_istore_n C (lv' := [(1, .int (y1_4 + ((x1 >>> (y2_4 &&& 31)) &&& (1 : Int32)))), (0, .int x1), (2, .int y2_4)]) dX7_ones_17 hn1 rfl ?_
        refine at_iinc C (v := (y2_4 + (1 : Int32))) (lv' := [(2, .int (y2_4 + (1 : Int32))), (1, .int (y1_4 + ((x1 >>> (y2_4 &&& 31)) &&& (1 : Int32)))), (0, .int x1)]) 2 dX7_ones_18 rfl rfl hn2 rfl ?_
        refine at_goto C 4 dX7_ones_21 (by decide) ?_
        exact at_sub [2, 1, 0] rfl (ih4 (y1_4 + ((x1 >>> (y2_4 &&& 31)) &&& (1 : Int32))) (y2_4 + (1 : Int32)) (mz_up hm4 (ac_ti1 f98 (iv_c (c := 1) (x := (1 : Int32)) (by decide)) (by decide) (by decide) (by decide)) (by decide) (iv_wk (iv_add f98 (iv_c (c := 1) (x := (1 : Int32)) (by decide)) (by decide) (by decide)) (by decide) (by decide) : iv 0 16 (y2_4 + (1 : Int32))).2) (show iv (-2147483648) 2147483647 (y1_4 + ((x1 >>> (y2_4 &&& 31)) &&& (1 : Int32))) from (iv_any (y1_4 + ((x1 >>> (y2_4 &&& 31)) &&& (1 : Int32))))) (iv_wk (iv_add f98 (iv_c (c := 1) (x := (1 : Int32)) (by decide)) (by decide) (by decide)) (by decide) (by decide) : iv 0 16 (y2_4 + (1 : Int32))) (on_step (iv_wk f98 (by decide) (by decide) : iv 0 15 y2_4) e0_4))
  refine at_iconst C (0 : Int32) dX7_ones_0 (by decide) ?_
  refine at_istore_n C (lv' := [(1, .int (0 : Int32)), (0, .int x1)]) dX7_ones_1 hn1 rfl ?_
  refine at_iconst C (0 : Int32) dX7_ones_2 (by decide) ?_
  refine at_istore_n C (lv' := [(2, .int (0 : Int32)), (1, .int (0 : Int32)), (0, .int x1)]) dX7_ones_3 hn2 rfl ?_
  exact at_sub [2, 1, 0] rfl (K4 _ (0 : Int32) (0 : Int32) (Nat.lt_succ_self _) (iv_wk (iv_c (c := 0) (x := (0 : Int32)) (by decide)) (by decide) (by decide) : iv (-2147483648) 2147483647 (0 : Int32)) (iv_wk (iv_c (c := 0) (x := (0 : Int32)) (by decide)) (by decide) (by decide) : iv 0 16 (0 : Int32)) rfl)
set_option maxHeartbeats 4000000 in
set_option maxRecDepth 100000 in
theorem ct_X7_allHouses (σ : SS) : ConI yX7_allHouses cX7_allHouses 1 (some .int) 0 (some 30) [] σ (fun r σ' => σ = σ' ∧ r = (((1 : Int32) <<< ((ac_gi σ 25) &&& 31)) - (1 : Int32))) := by
  refine conI_of (by decide) (fun q => Nat.le_of_ble_eq_true rfl) (fun E C en hR => ?_)
  refine at_iconst C (1 : Int32) dX7_allHouses_0 (by decide) ?_
  refine at_aload_n C 0 dX7_allHouses_1 rfl ?_
  refine gf_X7_183 C dX7_allHouses_2 ?_
  refine at_ishl C dX7_allHouses_5 ?_
  refine at_iconst C (1 : Int32) dX7_allHouses_6 (by decide) ?_
  refine at_isub C dX7_allHouses_7 ?_
  exact hR _ _ _ _ dX7_allHouses_8 ⟨rfl, rfl⟩
set_option maxHeartbeats 4000000 in
set_option maxRecDepth 100000 in
theorem ct_X7_wonBy (σ : SS) (x1 : Int32) (hI : Inv σ) (g1 : iv 0 5 x1) : ConI yX7_wonBy cX7_wonBy 2 (some .int) 0 (some 30) [.int x1] σ (fun r σ' => σ = σ' ∧ iv (-2147483648) 2147483647 r) := by
  refine conI_of (by decide) (fun q => Nat.le_of_ble_eq_true rfl) (fun E C en hR => ?_)
  refine at_aload_n C 0 dX7_wonBy_0 rfl ?_
  refine gf_X7_69 C dX7_wonBy_1 ?_
  refine at_iload_n C 1 dX7_wonBy_4 rfl ?_
  refine at_iald C (c := 46) rfl (iv_in (n := 6) g1 (by decide) (by decide)) dX7_wonBy_5 ?_
  refine at_if_ge C 13 dX7_wonBy_6 (by decide) (fun c22 => ?_) (fun c22 => ?_)
  · have f23 : iv 0 23 (ac_ga σ 46 (x1).toNatClampNeg) := (iv_ler (iv_c (c := 0) (x := (0 : Int32)) (by decide)) (show iv (-1) 23 (ac_ga σ 46 (x1).toNatClampNeg) from hI.2 46 _) c22)
    refine at_aload_n C 0 dX7_wonBy_13 rfl ?_
    refine gf_X7_63 C dX7_wonBy_14 ?_
    refine at_aload_n C 0 dX7_wonBy_17 rfl ?_
    refine gf_X7_69 C dX7_wonBy_18 ?_
    refine at_iload_n C 1 dX7_wonBy_21 rfl ?_
    refine at_iald C (c := 46) rfl (iv_in (n := 6) g1 (by decide) (by decide)) dX7_wonBy_22 ?_
    refine at_iald C (c := 44) rfl (iv_in (n := 24) f23 (by decide) (by decide)) dX7_wonBy_23 ?_
    exact hR _ _ _ _ dX7_wonBy_24 ⟨rfl, (show iv (-2147483648) 2147483647 (ac_ga σ 44 ((ac_ga σ 46 (x1).toNatClampNeg)).toNatClampNeg) from (iv_any (ac_ga σ 44 ((ac_ga σ 46 (x1).toNatClampNeg)).toNatClampNeg)))⟩
  · have f24 : iv (-1) (-1) (ac_ga σ 46 (x1).toNatClampNeg) := (iv_ltl (show iv (-1) 23 (ac_ga σ 46 (x1).toNatClampNeg) from hI.2 46 _) (iv_c (c := 0) (x := (0 : Int32)) (by decide)) (Int32.not_le.mp c22))
    refine at_iconst C (0 : Int32) dX7_wonBy_9 (by decide) ?_
    refine at_goto C 24 dX7_wonBy_10 (by decide) ?_
    exact hR _ _ _ _ dX7_wonBy_24 ⟨rfl, (iv_wk (iv_c (c := 0) (x := (0 : Int32)) (by decide)) (by decide) (by decide) : iv (-2147483648) 2147483647 (0 : Int32))⟩
set_option maxHeartbeats 4000000 in
set_option maxRecDepth 100000 in
theorem ct_X7_at (σ : SS) (x1 : Int32) (x2 : Int32) (hI : Inv σ) (g1 : iv 0 9 x1) : ConI yX7_at cX7_at 3 (some .int) 0 (some 30) [.int x1, .int x2] σ (fun r σ' => σ = σ' ∧ iv (-2147483648) 2147483647 r) := by
  refine conI_of (by decide) (fun q => Nat.le_of_ble_eq_true rfl) (fun E C en hR => ?_)
  refine at_iload_n C 2 dX7_at_0 rfl ?_
  refine at_iload_n C 1 dX7_at_1 rfl ?_
  refine at_ishr C dX7_at_2 ?_
  refine at_iconst C (1 : Int32) dX7_at_3 (by decide) ?_
  refine at_iand C dX7_at_4 ?_
  refine at_iconst C (1 : Int32) dX7_at_5 (by decide) ?_
  refine at_icmp_ne C 18 dX7_at_6 (by decide) (fun c22 => ?_) (fun c22 => ?_)
  · have f23 : iv 0 0 ((x2 >>> (x1 &&& 31)) &&& (1 : Int32)) := (iv_neh (iv_andr (iv_wk (c := 0) (iv_c (c := 1) (x := (1 : Int32)) (by decide)) (by decide) (Int.le_refl _))) (by decide) c22)
    refine at_aload_n C 0 dX7_at_18 rfl ?_
    refine gf_X7_75 C dX7_at_19 ?_
    refine at_iload_n C 1 dX7_at_22 rfl ?_
    refine at_iald C (c := 48) rfl (iv_in (n := 10) g1 (by decide) (by decide)) dX7_at_23 ?_
    exact hR _ _ _ _ dX7_at_24 ⟨rfl, (show iv (-2147483648) 2147483647 (ac_ga σ 48 (x1).toNatClampNeg) from (iv_any (ac_ga σ 48 (x1).toNatClampNeg)))⟩
  · have f24 : iv 1 1 ((x2 >>> (x1 &&& 31)) &&& (1 : Int32)) := (iv_eql (iv_c (c := 1) (x := (1 : Int32)) (by decide)) c22)
    refine at_aload_n C 0 dX7_at_9 rfl ?_
    refine gf_X7_78 C dX7_at_10 ?_
    refine at_iload_n C 1 dX7_at_13 rfl ?_
    refine at_iald C (c := 49) rfl (iv_in (n := 10) g1 (by decide) (by decide)) dX7_at_14 ?_
    refine at_goto C 24 dX7_at_15 (by decide) ?_
    exact hR _ _ _ _ dX7_at_24 ⟨rfl, (show iv (-2147483648) 2147483647 (ac_ga σ 49 (x1).toNatClampNeg) from (iv_any (ac_ga σ 49 (x1).toNatClampNeg)))⟩
