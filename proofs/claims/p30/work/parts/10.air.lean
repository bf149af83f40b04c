set_option maxHeartbeats 4000000 in
set_option maxRecDepth 100000 in
theorem ct_X6_within (σ : SS) (x1 : Int32) (x2 : Int32) (x3 : Int32) : ConI yX6_within cX6_within 3 (some .boolean) 0 none [.int x1, .int x2, .int x3] σ (fun r σ' => σ = σ' ∧ ((r = 1 ∧ ((x2).toInt ≤ (x1).toInt ∧ (x1).toInt ≤ (x3).toInt)) ∨ (r = 0 ∧ ¬ ((x2).toInt ≤ (x1).toInt ∧ (x1).toInt ≤ (x3).toInt)))) := by
  refine conZ_of (by decide) (fun q => Nat.le_of_ble_eq_true rfl) (fun r u h => by rcases h.2 with h | h; exact Or.inr h.1; exact Or.inl h.1) (fun E C en hR => ?_)
  refine at_iload_n C 0 dX6_within_0 rfl ?_
  refine at_iload_n C 1 dX6_within_1 rfl ?_
  refine at_icmp_lt C 14 dX6_within_2 (by decide) (fun c43 => ?_) (fun c43 => ?_)
  · have f44 : iv (-2147483648) 2147483646 x1 := (iv_ltl (iv_any x1) (iv_any x2) c43)
    have f45 : iv (-2147483647) 2147483647 x2 := (iv_ltr (iv_any x1) (iv_any x2) c43)
    refine at_iconst C (0 : Int32) dX6_within_14 (by decide) ?_
    exact hR _ _ _ _ dX6_within_15 ⟨rfl, Or.inr ⟨rfl, (by have t1 := iv_lt c43; omega)⟩⟩
  · refine at_iload_n C 0 dX6_within_5 rfl ?_
    refine at_iload_n C 2 dX6_within_6 rfl ?_
    refine at_icmp_gt C 14 dX6_within_7 (by decide) (fun c46 => ?_) (fun c46 => ?_)
    · have f47 : iv (-2147483648) 2147483646 x3 := (iv_ltl (iv_any x3) (iv_any x1) c46)
      have f48 : iv (-2147483647) 2147483647 x1 := (iv_ltr (iv_any x3) (iv_any x1) c46)
      refine at_iconst C (0 : Int32) dX6_within_14 (by decide) ?_
      exact hR _ _ _ _ dX6_within_15 ⟨rfl, Or.inr ⟨rfl, (by have t1 := iv_le (Int32.not_lt.mp c43); have t2 := iv_lt c46; omega)⟩⟩
    · refine at_iconst C (1 : Int32) dX6_within_10 (by decide) ?_
      refine at_goto C 15 dX6_within_11 (by decide) ?_
      exact hR _ _ _ _ dX6_within_15 ⟨rfl, Or.inl ⟨rfl, (by have t1 := iv_le (Int32.not_lt.mp c43); have t2 := iv_le (Int32.not_lt.mp c46); omega)⟩⟩
set_option maxHeartbeats 4000000 in
set_option maxRecDepth 100000 in
theorem ct_X6_has (σ : SS) (x1 : Int32) (x2 : Int32) : ConI yX6_has cX6_has 2 (some .boolean) 0 none [.int x1, .int x2] σ (fun r σ' => σ = σ' ∧ ((r = 1 ∧ (¬ ((x1 >>> (x2 &&& 31)) &&& 1) = 0)) ∨ (r = 0 ∧ ¬ (¬ ((x1 >>> (x2 &&& 31)) &&& 1) = 0)))) := by
  refine conZ_of (by decide) (fun q => Nat.le_of_ble_eq_true rfl) (fun r u h => by rcases h.2 with h | h; exact Or.inr h.1; exact Or.inl h.1) (fun E C en hR => ?_)
  refine at_iload_n C 0 dX6_has_0 rfl ?_
  refine at_iload_n C 1 dX6_has_1 rfl ?_
  refine at_ishr C dX6_has_2 ?_
  refine at_iconst C (1 : Int32) dX6_has_3 (by decide) ?_
  refine at_iand C dX6_has_4 ?_
  refine at_if_eq C 12 dX6_has_5 (by decide) (fun c22 => ?_) (fun c22 => ?_)
  · have f23 : iv 0 0 ((x1 >>> (x2 &&& 31)) &&& (1 : Int32)) := (iv_eql (iv_c (c := 0) (x := (0 : Int32)) (by decide)) c22)
    refine at_iconst C (0 : Int32) dX6_has_12 (by decide) ?_
    exact hR _ _ _ _ dX6_has_13 ⟨rfl, Or.inr ⟨rfl, (fun z => z c22)⟩⟩
  · have f24 : iv 1 1 ((x1 >>> (x2 &&& 31)) &&& (1 : Int32)) := (iv_nel (iv_andr (iv_wk (c := 0) (iv_c (c := 1) (x := (1 : Int32)) (by decide)) (by decide) (Int.le_refl _))) (by decide) c22)
    refine at_iconst C (1 : Int32) dX6_has_8 (by decide) ?_
    refine at_goto C 13 dX6_has_9 (by decide) ?_
    exact hR _ _ _ _ dX6_has_13 ⟨rfl, Or.inl ⟨rfl, c22⟩⟩
set_option maxHeartbeats 4000000 in
set_option maxRecDepth 100000 in
theorem ct_J6_bitCount_0f7a4 (σ : SS) (x1 : Int32) : ConI yJ6_bitCount_0f7a4 cJ6_bitCount_0f7a4 1 (some .int) 0 none [.int x1] σ (fun r σ' => σ = σ' ∧ iv 0 63 r ∧ (r = ac_bc x1)) := by
  refine conI_of (by decide) (fun q => Nat.le_of_ble_eq_true rfl) (fun E C en hR => ?_)
  have hn0 : 0 < e_n E := by rw [en]; decide
  refine at_iload_n C 0 dJ6_bitCount_0f7a4_0 rfl ?_
  refine at_iload_n C 0 dJ6_bitCount_0f7a4_1 rfl ?_
  refine at_iconst C (1 : Int32) dJ6_bitCount_0f7a4_2 (by decide) ?_
  refine at_iushr C dJ6_bitCount_0f7a4_3 ?_
  refine at_ldcw C (1431655765 : Int32) dJ6_bitCount_0f7a4_4 kc_J6_265 ?_
  refine at_iand C dJ6_bitCount_0f7a4_7 ?_
  refine at_isub C dJ6_bitCount_0f7a4_8 ?_
  refine at_istore_n C (lv' := [(0, .int (x1 - ((ac_ushr x1 (1 : Int32)) &&& (1431655765 : Int32))))]) dJ6_bitCount_0f7a4_9 hn0 rfl ?_
  refine at_iload_n C 0 dJ6_bitCount_0f7a4_10 rfl ?_
  refine at_ldcw C (858993459 : Int32) dJ6_bitCount_0f7a4_11 kc_J6_266 ?_
  refine at_iand C dJ6_bitCount_0f7a4_14 ?_
  refine at_iload_n C 0 dJ6_bitCount_0f7a4_15 rfl ?_
  refine at_iconst C (2 : Int32) dJ6_bitCount_0f7a4_16 (by decide) ?_
  refine at_iushr C dJ6_bitCount_0f7a4_17 ?_
  refine at_ldcw C (858993459 : Int32) dJ6_bitCount_0f7a4_18 kc_J6_266 ?_
  refine at_iand C dJ6_bitCount_0f7a4_21 ?_
  refine at_iadd C dJ6_bitCount_0f7a4_22 ?_
  refine at_istore_n C (lv' := [(0, .int (((x1 - ((ac_ushr x1 (1 : Int32)) &&& (1431655765 : Int32))) &&& (858993459 : Int32)) + ((ac_ushr (x1 - ((ac_ushr x1 (1 : Int32)) &&& (1431655765 : Int32))) (2 : Int32)) &&& (858993459 : Int32))))]) dJ6_bitCount_0f7a4_23 hn0 rfl ?_
  refine at_iload_n C 0 dJ6_bitCount_0f7a4_24 rfl ?_
  refine at_iload_n C 0 dJ6_bitCount_0f7a4_25 rfl ?_
  refine at_iconst C (4 : Int32) dJ6_bitCount_0f7a4_26 (by decide) ?_
  refine at_iushr C dJ6_bitCount_0f7a4_27 ?_
  refine at_iadd C dJ6_bitCount_0f7a4_28 ?_
  refine at_ldcw C (252645135 : Int32) dJ6_bitCount_0f7a4_29 kc_J6_267 ?_
  refine at_iand C dJ6_bitCount_0f7a4_32 ?_
  refine at_istore_n C (lv' := [(0, .int (((((x1 - ((ac_ushr x1 (1 : Int32)) &&& (1431655765 : Int32))) &&& (858993459 : Int32)) + ((ac_ushr (x1 - ((ac_ushr x1 (1 : Int32)) &&& (1431655765 : Int32))) (2 : Int32)) &&& (858993459 : Int32))) + (ac_ushr (((x1 - ((ac_ushr x1 (1 : Int32)) &&& (1431655765 : Int32))) &&& (858993459 : Int32)) + ((ac_ushr (x1 - ((ac_ushr x1 (1 : Int32)) &&& (1431655765 : Int32))) (2 : Int32)) &&& (858993459 : Int32))) (4 : Int32))) &&& (252645135 : Int32)))]) dJ6_bitCount_0f7a4_33 hn0 rfl ?_
  refine at_iload_n C 0 dJ6_bitCount_0f7a4_34 rfl ?_
  refine at_iload_n C 0 dJ6_bitCount_0f7a4_35 rfl ?_
  refine at_bipush C (8 : Int32) dJ6_bitCount_0f7a4_36 (by decide) ?_
  refine at_iushr C dJ6_bitCount_0f7a4_38 ?_
  refine at_iadd C dJ6_bitCount_0f7a4_39 ?_
  refine at_istore_n C (lv' := [(0, .int ((((((x1 - ((ac_ushr x1 (1 : Int32)) &&& (1431655765 : Int32))) &&& (858993459 : Int32)) + ((ac_ushr (x1 - ((ac_ushr x1 (1 : Int32)) &&& (1431655765 : Int32))) (2 : Int32)) &&& (858993459 : Int32))) + (ac_ushr (((x1 - ((ac_ushr x1 (1 : Int32)) &&& (1431655765 : Int32))) &&& (858993459 : Int32)) + ((ac_ushr (x1 - ((ac_ushr x1 (1 : Int32)) &&& (1431655765 : Int32))) (2 : Int32)) &&& (858993459 : Int32))) (4 : Int32))) &&& (252645135 : Int32)) + (ac_ushr (((((x1 - ((ac_ushr x1 (1 : Int32)) &&& (1431655765 : Int32))) &&& (858993459 : Int32)) + ((ac_ushr (x1 - ((ac_ushr x1 (1 : Int32)) &&& (1431655765 : Int32))) (2 : Int32)) &&& (858993459 : Int32))) + (ac_ushr (((x1 - ((ac_ushr x1 (1 : Int32)) &&& (1431655765 : Int32))) &&& (858993459 : Int32)) + ((ac_ushr (x1 - ((ac_ushr x1 (1 : Int32)) &&& (1431655765 : Int32))) (2 : Int32)) &&& (858993459 : Int32))) (4 : Int32))) &&& (252645135 : Int32)) (8 : Int32))))]) dJ6_bitCount_0f7a4_40 hn0 rfl ?_
  refine at_iload_n C 0 dJ6_bitCount_0f7a4_41 rfl ?_
  refine at_iload_n C 0 dJ6_bitCount_0f7a4_42 rfl ?_
  refine at_bipush C (16 : Int32) dJ6_bitCount_0f7a4_43 (by decide) ?_
  refine at_iushr C dJ6_bitCount_0f7a4_45 ?_
  refine at_iadd C dJ6_bitCount_0f7a4_46 ?_
  refine at_istore_n C (lv' := [(0, .int (((((((x1 - ((ac_ushr x1 (1 : Int32)) &&& (1431655765 : Int32))) &&& (858993459 : Int32)) + ((ac_ushr (x1 - ((ac_ushr x1 (1 : Int32)) &&& (1431655765 : Int32))) (2 : Int32)) &&& (858993459 : Int32))) + (ac_ushr (((x1 - ((ac_ushr x1 (1 : Int32)) &&& (1431655765 : Int32))) &&& (858993459 : Int32)) + ((ac_ushr (x1 - ((ac_ushr x1 (1 : Int32)) &&& (1431655765 : Int32))) (2 : Int32)) &&& (858993459 : Int32))) (4 : Int32))) &&& (252645135 : Int32)) + (ac_ushr (((((x1 - ((ac_ushr x1 (1 : Int32)) &&& (1431655765 : Int32))) &&& (858993459 : Int32)) + ((ac_ushr (x1 - ((ac_ushr x1 (1 : Int32)) &&& (1431655765 : Int32))) (2 : Int32)) &&& (858993459 : Int32))) + (ac_ushr (((x1 - ((ac_ushr x1 (1 : Int32)) &&& (1431655765 : Int32))) &&& (858993459 : Int32)) + ((ac_ushr (x1 - ((ac_ushr x1 (1 : Int32)) &&& (1431655765 : Int32))) (2 : Int32)) &&& (858993459 : Int32))) (4 : Int32))) &&& (252645135 : Int32)) (8 : Int32))) + (ac_ushr ((((((x1 - ((ac_ushr x1 (1 : Int32)) &&& (1431655765 : Int32))) &&& (858993459 : Int32)) + ((ac_ushr (x1 - ((ac_ushr x1 (1 : Int32)) &&& (1431655765 : Int32))) (2 : Int32)) &&& (858993459 : Int32))) + (ac_ushr (((x1 - ((ac_ushr x1 (1 : Int32)) &&& (1431655765 : Int32))) &&& (858993459 : Int32)) + ((ac_ushr (x1 - ((ac_ushr x1 (1 : Int32)) &&& (1431655765 : Int32))) (2 : Int32)) &&& (858993459 : Int32))) (4 : Int32))) &&& (252645135 : Int32)) + (ac_ushr (((((x1 - ((ac_ushr x1 (1 : Int32)) &&& (1431655765 : Int32))) &&& (858993459 : Int32)) + ((ac_ushr (x1 - ((ac_ushr x1 (1 : Int32)) &&& (1431655765 : Int32))) (2 : Int32)) &&& (858993459 : Int32))) + (ac_ushr (((x1 - ((ac_ushr x1 (1 : Int32)) &&& (1431655765 : Int32))) &&& (858993459 : Int32)) + ((ac_ushr (x1 - ((ac_ushr x1 (1 : Int32)) &&& (1431655765 : Int32))) (2 : Int32)) &&& (858993459 : Int32))) (4 : Int32))) &&& (252645135 : Int32)) (8 : Int32))) (16 : Int32))))]) dJ6_bitCount_0f7a4_47 hn0 rfl ?_
  refine at_iload_n C 0 dJ6_bitCount_0f7a4_48 rfl ?_
  refine at_bipush C (63 : Int32) dJ6_bitCount_0f7a4_49 (by decide) ?_
  refine at_iand C dJ6_bitCount_0f7a4_51 ?_
  exact hR _ _ _ _ dJ6_bitCount_0f7a4_52 ⟨rfl, (show iv 0 63 ((((((((x1 - ((ac_ushr x1 (1 : Int32)) &&& (1431655765 : Int32))) &&& (858993459 : Int32)) + ((ac_ushr (x1 - ((ac_ushr x1 (1 : Int32)) &&& (1431655765 : Int32))) (2 : Int32)) &&& (858993459 : Int32))) + (ac_ushr (((x1 - ((ac_ushr x1 (1 : Int32)) &&& (1431655765 : Int32))) &&& (858993459 : Int32)) + ((ac_ushr (x1 - ((ac_ushr x1 (1 : Int32)) &&& (1431655765 : Int32))) (2 : Int32)) &&& (858993459 : Int32))) (4 : Int32))) &&& (252645135 : Int32)) + (ac_ushr (((((x1 - ((ac_ushr x1 (1 : Int32)) &&& (1431655765 : Int32))) &&& (858993459 : Int32)) + ((ac_ushr (x1 - ((ac_ushr x1 (1 : Int32)) &&& (1431655765 : Int32))) (2 : Int32)) &&& (858993459 : Int32))) + (ac_ushr (((x1 - ((ac_ushr x1 (1 : Int32)) &&& (1431655765 : Int32))) &&& (858993459 : Int32)) + ((ac_ushr (x1 - ((ac_ushr x1 (1 : Int32)) &&& (1431655765 : Int32))) (2 : Int32)) &&& (858993459 : Int32))) (4 : Int32))) &&& (252645135 : Int32)) (8 : Int32))) + (ac_ushr ((((((x1 - ((ac_ushr x1 (1 : Int32)) &&& (1431655765 : Int32))) &&& (858993459 : Int32)) + ((ac_ushr (x1 - ((ac_ushr x1 (1 : Int32)) &&& (1431655765 : Int32))) (2 : Int32)) &&& (858993459 : Int32))) + (ac_ushr (((x1 - ((ac_ushr x1 (1 : Int32)) &&& (1431655765 : Int32))) &&& (858993459 : Int32)) + ((ac_ushr (x1 - ((ac_ushr x1 (1 : Int32)) &&& (1431655765 : Int32))) (2 : Int32)) &&& (858993459 : Int32))) (4 : Int32))) &&& (252645135 : Int32)) + (ac_ushr (((((x1 - ((ac_ushr x1 (1 : Int32)) &&& (1431655765 : Int32))) &&& (858993459 : Int32)) + ((ac_ushr (x1 - ((ac_ushr x1 (1 : Int32)) &&& (1431655765 : Int32))) (2 : Int32)) &&& (858993459 : Int32))) + (ac_ushr (((x1 - ((ac_ushr x1 (1 : Int32)) &&& (1431655765 : Int32))) &&& (858993459 : Int32)) + ((ac_ushr (x1 - ((ac_ushr x1 (1 : Int32)) &&& (1431655765 : Int32))) (2 : Int32)) &&& (858993459 : Int32))) (4 : Int32))) &&& (252645135 : Int32)) (8 : Int32))) (16 : Int32))) &&& (63 : Int32)) from (iv_andr (iv_wk (c := 0) (iv_c (c := 63) (x := (63 : Int32)) (by decide)) (by decide) (Int.le_refl _)))), rfl⟩
set_option maxHeartbeats 4000000 in
set_option maxRecDepth 100000 in
theorem ct_X6_placeOf (σ : SS) (x1 : Int32) : ConI yX6_placeOf cX6_placeOf 1 (some .int) 1 none [.int x1] σ (fun r σ' => σ = σ' ∧ iv 0 63 r) := by
  refine conI_of (by decide) (fun q => Nat.le_of_ble_eq_true rfl) (fun E C en hR => ?_)
  refine at_iload_n C 0 dX6_placeOf_0 rfl ?_
  refine at_iconst C (1 : Int32) dX6_placeOf_1 (by decide) ?_
  refine at_isub C dX6_placeOf_2 ?_
  refine at_Si C (As := [.int (x1 - (1 : Int32))]) (st := []) (ct_J6_bitCount_0f7a4 σ (x1 - (1 : Int32))) mb_J6_bitCount_0f7a4 ml_X6_219 rfl (by decide) rfl (Nat.le_of_ble_eq_true rfl) dX6_placeOf_3 ?_
  rintro r22 _ ⟨rfl, f23, mo24⟩
  exact hR _ _ _ _ dX6_placeOf_6 ⟨rfl, (show iv 0 63 r22 from f23)⟩
set_option maxHeartbeats 4000000 in
set_option maxRecDepth 100000 in
theorem ct_X0_isMast (σ : SS) (x1 : Int32) : ConI yX0_isMast cX0_isMast 2 (some .boolean) 0 (some 1) [.int x1] σ (fun r σ' => σ = σ' ∧ ((r = 1 ∧ (0 ≤ (x1).toInt ∧ (x1).toInt < (ac_gi σ 0).toInt)) ∨ (r = 0 ∧ ¬ (0 ≤ (x1).toInt ∧ (x1).toInt < (ac_gi σ 0).toInt)))) := by
  refine conZ_of (by decide) (fun q => Nat.le_of_ble_eq_true rfl) (fun r u h => by rcases h.2 with h | h; exact Or.inr h.1; exact Or.inl h.1) (fun E C en hR => ?_)
  refine at_iload_n C 1 dX0_isMast_0 rfl ?_
  refine at_if_lt C 16 dX0_isMast_1 (by decide) (fun c43 => ?_) (fun c43 => ?_)
  · have f44 : iv (-2147483648) (-1) x1 := (iv_ltl (iv_any x1) (iv_c (c := 0) (x := (0 : Int32)) (by decide)) c43)
    refine at_iconst C (0 : Int32) dX0_isMast_16 (by decide) ?_
    exact hR _ _ _ _ dX0_isMast_17 ⟨rfl, Or.inr ⟨rfl, (by have t1 := iv_lt c43; have k0 : (0 : Int32).toInt = 0 := (by decide); omega)⟩⟩
  · have f45 : iv 0 2147483647 x1 := (iv_ler (iv_c (c := 0) (x := (0 : Int32)) (by decide)) (iv_any x1) (Int32.not_lt.mp c43))
    refine at_iload_n C 1 dX0_isMast_4 rfl ?_
    refine at_aload_n C 0 dX0_isMast_5 rfl ?_
    refine gf_X0_9 C dX0_isMast_6 ?_
    refine at_icmp_ge C 16 dX0_isMast_9 (by decide) (fun c46 => ?_) (fun c46 => ?_)
    · refine at_iconst C (0 : Int32) dX0_isMast_16 (by decide) ?_
      exact hR _ _ _ _ dX0_isMast_17 ⟨rfl, Or.inr ⟨rfl, (by have t1 := iv_le (Int32.not_lt.mp c43); have t2 := iv_le c46; have k0 : (0 : Int32).toInt = 0 := (by decide); omega)⟩⟩
    · have f47 : iv 0 2147483646 x1 := (iv_ltl f45 (iv_any (ac_gi σ 0)) (Int32.not_le.mp c46))
      have f48 : iv 1 2147483647 (ac_gi σ 0) := (iv_ltr f45 (iv_any (ac_gi σ 0)) (Int32.not_le.mp c46))
      refine at_iconst C (1 : Int32) dX0_isMast_12 (by decide) ?_
      refine at_goto C 17 dX0_isMast_13 (by decide) ?_
      exact hR _ _ _ _ dX0_isMast_17 ⟨rfl, Or.inl ⟨rfl, (by have t1 := iv_le (Int32.not_lt.mp c43); have t2 := iv_lt (Int32.not_le.mp c46); have k0 : (0 : Int32).toInt = 0 := (by decide); omega)⟩⟩
set_option maxHeartbeats 4000000 in
set_option maxRecDepth 100000 in
theorem ct_X0_isSet (σ : SS) (x1 : Int32) : ConI yX0_isSet cX0_isSet 2 (some .boolean) 0 (some 1) [.int x1] σ (fun r σ' => σ = σ' ∧ ((r = 1 ∧ (0 ≤ (x1).toInt ∧ (x1).toInt < ((1 : Int32) <<< (ac_gi σ 0 &&& 31)).toInt)) ∨ (r = 0 ∧ ¬ (0 ≤ (x1).toInt ∧ (x1).toInt < ((1 : Int32) <<< (ac_gi σ 0 &&& 31)).toInt)))) := by
  refine conZ_of (by decide) (fun q => Nat.le_of_ble_eq_true rfl) (fun r u h => by rcases h.2 with h | h; exact Or.inr h.1; exact Or.inl h.1) (fun E C en hR => ?_)
  refine at_iload_n C 1 dX0_isSet_0 rfl ?_
  refine at_if_lt C 18 dX0_isSet_1 (by decide) (fun c43 => ?_) (fun c43 => ?_)
  · have f44 : iv (-2147483648) (-1) x1 := (iv_ltl (iv_any x1) (iv_c (c := 0) (x := (0 : Int32)) (by decide)) c43)
    refine at_iconst C (0 : Int32) dX0_isSet_18 (by decide) ?_
    exact hR _ _ _ _ dX0_isSet_19 ⟨rfl, Or.inr ⟨rfl, (by have t1 := iv_lt c43; have k0 : (0 : Int32).toInt = 0 := (by decide); omega)⟩⟩
  · have f45 : iv 0 2147483647 x1 := (iv_ler (iv_c (c := 0) (x := (0 : Int32)) (by decide)) (iv_any x1) (Int32.not_lt.mp c43))
    refine at_iload_n C 1 dX0_isSet_4 rfl ?_
    refine at_iconst C (1 : Int32) dX0_isSet_5 (by decide) ?_
    refine at_aload_n C 0 dX0_isSet_6 rfl ?_
    refine gf_X0_9 C dX0_isSet_7 ?_
    refine at_ishl C dX0_isSet_10 ?_
    refine at_icmp_ge C 18 dX0_isSet_11 (by decide) (fun c46 => ?_) (fun c46 => ?_)
    · refine at_iconst C (0 : Int32) dX0_isSet_18 (by decide) ?_
      exact hR _ _ _ _ dX0_isSet_19 ⟨rfl, Or.inr ⟨rfl, (by have t1 := iv_le (Int32.not_lt.mp c43); have t2 := iv_le c46; have k0 : (0 : Int32).toInt = 0 := (by decide); omega)⟩⟩
    · have f47 : iv 0 2147483646 x1 := (iv_ltl f45 (iv_any ((1 : Int32) <<< ((ac_gi σ 0) &&& 31))) (Int32.not_le.mp c46))
      have f48 : iv 1 2147483647 ((1 : Int32) <<< ((ac_gi σ 0) &&& 31)) := (iv_ltr f45 (iv_any ((1 : Int32) <<< ((ac_gi σ 0) &&& 31))) (Int32.not_le.mp c46))
      refine at_iconst C (1 : Int32) dX0_isSet_14 (by decide) ?_
      refine at_goto C 19 dX0_isSet_15 (by decide) ?_
      exact hR _ _ _ _ dX0_isSet_19 ⟨rfl, Or.inl ⟨rfl, (by have t1 := iv_le (Int32.not_lt.mp c43); have t2 := iv_lt (Int32.not_le.mp c46); have k0 : (0 : Int32).toInt = 0 := (by decide); omega)⟩⟩
set_option maxHeartbeats 4000000 in
set_option maxRecDepth 100000 in
theorem ct_X0_allChannels (σ : SS) : ConI yX0_allChannels cX0_allChannels 1 (some .int) 0 (some 1) [] σ (fun r σ' => σ = σ' ∧ r = (((1 : Int32) <<< ((ac_gi σ 1) &&& 31)) - (1 : Int32))) := by
  refine conI_of (by decide) (fun q => Nat.le_of_ble_eq_true rfl) (fun E C en hR => ?_)
  refine at_iconst C (1 : Int32) dX0_allChannels_0 (by decide) ?_
  refine at_aload_n C 0 dX0_allChannels_1 rfl ?_
  refine gf_X0_15 C dX0_allChannels_2 ?_
  refine at_ishl C dX0_allChannels_5 ?_
  refine at_iconst C (1 : Int32) dX0_allChannels_6 (by decide) ?_
  refine at_isub C dX0_allChannels_7 ?_
  exact hR _ _ _ _ dX0_allChannels_8 ⟨rfl, rfl⟩
set_option maxHeartbeats 4000000 in
set_option maxRecDepth 100000 in
theorem ct_X0_mayHave (σ : SS) (x1 : Int32) (hI : Inv σ) : ConI yX0_mayHave cX0_mayHave 2 (some .int) 0 (some 1) [.int x1] σ (fun r σ' => σ = σ' ∧ iv 0 63 r) := by
  refine conI_of (by decide) (fun q => Nat.le_of_ble_eq_true rfl) (fun E C en hR => ?_)
  refine at_iload_n C 1 dX0_mayHave_0 rfl ?_
  refine at_if_lt C 32 dX0_mayHave_1 (by decide) (fun c43 => ?_) (fun c43 => ?_)
  · have f44 : iv (-2147483648) (-1) x1 := (iv_ltl (iv_any x1) (iv_c (c := 0) (x := (0 : Int32)) (by decide)) c43)
    refine at_iconst C (0 : Int32) dX0_mayHave_32 (by decide) ?_
    exact hR _ _ _ _ dX0_mayHave_33 ⟨rfl, (iv_wk (iv_c (c := 0) (x := (0 : Int32)) (by decide)) (by decide) (by decide) : iv 0 63 (0 : Int32))⟩
  · have f45 : iv 0 2147483647 x1 := (iv_ler (iv_c (c := 0) (x := (0 : Int32)) (by decide)) (iv_any x1) (Int32.not_lt.mp c43))
    refine at_iload_n C 1 dX0_mayHave_4 rfl ?_
    refine at_aload_n C 0 dX0_mayHave_5 rfl ?_
    refine gf_X0_9 C dX0_mayHave_6 ?_
    refine at_icmp_ge C 32 dX0_mayHave_9 (by decide) (fun c46 => ?_) (fun c46 => ?_)
    · refine at_iconst C (0 : Int32) dX0_mayHave_32 (by decide) ?_
      exact hR _ _ _ _ dX0_mayHave_33 ⟨rfl, (iv_wk (iv_c (c := 0) (x := (0 : Int32)) (by decide)) (by decide) (by decide) : iv 0 63 (0 : Int32))⟩
    · have f47 : iv 0 9 x1 := (iv_ltl f45 (show iv 0 10 (ac_gi σ 0) from hI.1 0) (Int32.not_le.mp c46))
      have f48 : iv 1 10 (ac_gi σ 0) := (iv_ltr f45 (show iv 0 10 (ac_gi σ 0) from hI.1 0) (Int32.not_le.mp c46))
      refine at_iconst C (1 : Int32) dX0_mayHave_12 (by decide) ?_
      refine at_aload_n C 0 dX0_mayHave_13 rfl ?_
      refine gf_X0_15 C dX0_mayHave_14 ?_
      refine at_ishl C dX0_mayHave_17 ?_
      refine at_iconst C (1 : Int32) dX0_mayHave_18 (by decide) ?_
      refine at_isub C dX0_mayHave_19 ?_
      refine at_aload_n C 0 dX0_mayHave_20 rfl ?_
      refine gf_X0_24 C dX0_mayHave_21 ?_
      refine at_iload_n C 1 dX0_mayHave_24 rfl ?_
      refine at_iald C (c := 8) rfl (iv_in (n := 10) f47 (by decide) (by decide)) dX0_mayHave_25 ?_
      refine at_iconst C (-1 : Int32) dX0_mayHave_26 (by decide) ?_
      refine at_ixor C dX0_mayHave_27 ?_
      refine at_iand C dX0_mayHave_28 ?_
      refine at_goto C 33 dX0_mayHave_29 (by decide) ?_
      exact hR _ _ _ _ dX0_mayHave_33 ⟨rfl, (show iv 0 63 ((((1 : Int32) <<< ((ac_gi σ 1) &&& 31)) - (1 : Int32)) &&& ((ac_ga σ 8 (x1).toNatClampNeg) ^^^ (-1 : Int32))) from (iv_andl (iv_wk (c := 0) (iv_sub (iv_shl1 (a := 1) (b := 6) (show iv 1 6 (ac_gi σ 1) from hI.1 1) (by decide)) (iv_c (c := 1) (x := (1 : Int32)) (by decide)) (by decide) (by decide)) (by decide) (Int.le_refl _))))⟩
set_option maxHeartbeats 4000000 in
set_option maxRecDepth 100000 in
theorem ct_X0_pairOf (σ : SS) (x1 : Int32) (x2 : Int32) (hI : Inv σ) : ConI yX0_pairOf cX0_pairOf 3 (some .int) 1 (some 1) [.int x1, .int x2] σ (fun r σ' => ((¬ ((0 ≤ (x1).toInt ∧ (x1).toInt < (ac_gi σ 0).toInt) ∧ (0 ≤ (x2).toInt ∧ (x2).toInt < (ac_gi σ 0).toInt))) ∧ r = (0 : Int32) ∧ σ = σ') ∨ (((0 ≤ (x1).toInt ∧ (x1).toInt < (ac_gi σ 0).toInt) ∧ (0 ≤ (x2).toInt ∧ (x2).toInt < (ac_gi σ 0).toInt)) ∧ r = (ac_ga σ 9 (((x1 * (10 : Int32)) + x2)).toNatClampNeg) ∧ σ = σ')) := by
  refine conI_of (by decide) (fun q => Nat.le_of_ble_eq_true rfl) (fun E C en hR => ?_)
  refine at_aload_n C 0 dX0_pairOf_0 rfl ?_
  refine at_iload_n C 1 dX0_pairOf_1 rfl ?_
  refine at_Vi C (As := [.int x1]) (st := []) (b := 1) (ci := 0) (ct_X0_isMast σ x1) mb_X0_isMast ml_X0_31 rfl rfl rfl (by decide) rfl (Nat.le_of_ble_eq_true rfl) dX0_pairOf_2 ?_
  rintro _ _ ⟨rfl, ⟨rfl, c71⟩ | ⟨rfl, c71⟩⟩
  · have f73 : iv 0 9 x1 := (iv_of3 c71 (show iv 0 10 (ac_gi σ 0) from hI.1 0))
    refine at_if_eq C 30 dX0_pairOf_5 (by decide) (fun c74 => absurd c74 (iv_xeq (iv_c (c := 1) (x := (1 : Int32)) (by decide)) (iv_c (c := 0) (x := (0 : Int32)) (by decide)) (by decide))) (fun c74 => ?_)
    refine at_aload_n C 0 dX0_pairOf_8 rfl ?_
    refine at_iload_n C 2 dX0_pairOf_9 rfl ?_
    refine at_Vi C (As := [.int x2]) (st := []) (b := 1) (ci := 0) (ct_X0_isMast σ x2) mb_X0_isMast ml_X0_31 rfl rfl rfl (by decide) rfl (Nat.le_of_ble_eq_true rfl) dX0_pairOf_10 ?_
    rintro _ _ ⟨rfl, ⟨rfl, c75⟩ | ⟨rfl, c75⟩⟩
    · have f77 : iv 0 9 x2 := (iv_of3 c75 (show iv 0 10 (ac_gi σ 0) from hI.1 0))
      refine at_if_eq C 30 dX0_pairOf_13 (by decide) (fun c78 => absurd c78 (iv_xeq (iv_c (c := 1) (x := (1 : Int32)) (by decide)) (iv_c (c := 0) (x := (0 : Int32)) (by decide)) (by decide))) (fun c78 => ?_)
      refine at_aload_n C 0 dX0_pairOf_16 rfl ?_
      refine gf_X0_28 C dX0_pairOf_17 ?_
      refine at_iload_n C 1 dX0_pairOf_20 rfl ?_
      refine at_bipush C (10 : Int32) dX0_pairOf_21 (by decide) ?_
      refine at_imul C dX0_pairOf_23 ?_
      refine at_iload_n C 2 dX0_pairOf_24 rfl ?_
      refine at_iadd C dX0_pairOf_25 ?_
      refine at_iald C (c := 9) rfl (iv_in (n := 100) (iv_add (iv_mul f73 (iv_wk (c := 0) (iv_c (c := 10) (x := (10 : Int32)) (by decide)) (by decide) (Int.le_refl _)) (by decide)) f77 (by decide) (by decide)) (by decide) (by decide)) dX0_pairOf_26 ?_
      refine at_goto C 31 dX0_pairOf_27 (by decide) ?_
      exact hR _ _ _ _ dX0_pairOf_31 (Or.inr ⟨(by have := c71; have := c75; omega), rfl, rfl⟩)
    · refine at_if_eq C 30 dX0_pairOf_13 (by decide) (fun c79 => ?_) (fun c79 => absurd (iv_xne (iv_c (c := 0) (x := (0 : Int32)) (by decide)) (iv_c (c := 0) (x := (0 : Int32)) (by decide))) c79)
      refine at_iconst C (0 : Int32) dX0_pairOf_30 (by decide) ?_
      exact hR _ _ _ _ dX0_pairOf_31 (Or.inl ⟨(by have := c71; have := c75; omega), rfl, rfl⟩)
  · refine at_if_eq C 30 dX0_pairOf_5 (by decide) (fun c80 => ?_) (fun c80 => absurd (iv_xne (iv_c (c := 0) (x := (0 : Int32)) (by decide)) (iv_c (c := 0) (x := (0 : Int32)) (by decide))) c80)
    refine at_iconst C (0 : Int32) dX0_pairOf_30 (by decide) ?_
    exact hR _ _ _ _ dX0_pairOf_31 (Or.inl ⟨(by have := c71; omega), rfl, rfl⟩)
set_option maxHeartbeats 4000000 in
set_option maxRecDepth 100000 in
theorem ct_X0_setPair (σ : SS) (x1 : Int32) (x2 : Int32) (x3 : Int32) (hI : Inv σ) (g3 : iv 0 2 x3) : ConV yX0_setPair cX0_setPair 4 none 1 (some 1) [.int x1, .int x2, .int x3] σ (fun σ' => ((¬ ((0 ≤ (x1).toInt ∧ (x1).toInt < (ac_gi σ 0).toInt) ∧ (0 ≤ (x2).toInt ∧ (x2).toInt < (ac_gi σ 0).toInt))) ∧ σ = σ' ∧ Inv σ') ∨ (((0 ≤ (x1).toInt ∧ (x1).toInt < (ac_gi σ 0).toInt) ∧ (0 ≤ (x2).toInt ∧ (x2).toInt < (ac_gi σ 0).toInt)) ∧ (ac_sa (ac_sa σ 9 (upd (ac_ga σ 9) (((x1 * (10 : Int32)) + x2)).toNatClampNeg x3)) 9 (upd (ac_ga (ac_sa σ 9 (upd (ac_ga σ 9) (((x1 * (10 : Int32)) + x2)).toNatClampNeg x3)) 9) (((x2 * (10 : Int32)) + x1)).toNatClampNeg x3)) = σ' ∧ Inv σ')) := by
  refine conV_of (by decide) (fun q => Nat.le_of_ble_eq_true rfl) (fun E C en hR => ?_)
  refine at_aload_n C 0 dX0_setPair_0 rfl ?_
  refine at_iload_n C 1 dX0_setPair_1 rfl ?_
  refine at_Vi C (As := [.int x1]) (st := []) (b := 1) (ci := 0) (ct_X0_isMast σ x1) mb_X0_isMast ml_X0_31 rfl rfl rfl (by decide) rfl (Nat.le_of_ble_eq_true rfl) dX0_setPair_2 ?_
  rintro _ _ ⟨rfl, ⟨rfl, c85⟩ | ⟨rfl, c85⟩⟩
  · have f87 : iv 0 9 x1 := (iv_of3 c85 (show iv 0 10 (ac_gi σ 0) from hI.1 0))
    refine at_if_eq C 40 dX0_setPair_5 (by decide) (fun c88 => absurd c88 (iv_xeq (iv_c (c := 1) (x := (1 : Int32)) (by decide)) (iv_c (c := 0) (x := (0 : Int32)) (by decide)) (by decide))) (fun c88 => ?_)
    refine at_aload_n C 0 dX0_setPair_8 rfl ?_
    refine at_iload_n C 2 dX0_setPair_9 rfl ?_
    refine at_Vi C (As := [.int x2]) (st := []) (b := 1) (ci := 0) (ct_X0_isMast σ x2) mb_X0_isMast ml_X0_31 rfl rfl rfl (by decide) rfl (Nat.le_of_ble_eq_true rfl) dX0_setPair_10 ?_
    rintro _ _ ⟨rfl, ⟨rfl, c89⟩ | ⟨rfl, c89⟩⟩
    · have f91 : iv 0 9 x2 := (iv_of3 c89 (show iv 0 10 (ac_gi σ 0) from hI.1 0))
      refine at_if_eq C 40 dX0_setPair_13 (by decide) (fun c92 => absurd c92 (iv_xeq (iv_c (c := 1) (x := (1 : Int32)) (by decide)) (iv_c (c := 0) (x := (0 : Int32)) (by decide)) (by decide))) (fun c92 => ?_)
      refine at_aload_n C 0 dX0_setPair_16 rfl ?_
      refine gf_X0_28 C dX0_setPair_17 ?_
      refine at_iload_n C 1 dX0_setPair_20 rfl ?_
      refine at_bipush C (10 : Int32) dX0_setPair_21 (by decide) ?_
      refine at_imul C dX0_setPair_23 ?_
      refine at_iload_n C 2 dX0_setPair_24 rfl ?_
      refine at_iadd C dX0_setPair_25 ?_
      refine at_iload_n C 3 dX0_setPair_26 rfl ?_
      refine at_iast C (c := 9) rfl (fun f => ac_ast_9 _ _ _ _ f) (iv_in (n := 100) (iv_add (iv_mul f87 (iv_wk (c := 0) (iv_c (c := 10) (x := (10 : Int32)) (by decide)) (by decide) (Int.le_refl _)) (by decide)) f91 (by decide) (by decide)) (by decide) (by decide)) dX0_setPair_27 ?_
      have hJ93 := Inv.sa (c := 9) (i := (((x1 * (10 : Int32)) + x2)).toNatClampNeg) hI (show iv 0 2 x3 from g3)
      refine at_aload_n C 0 dX0_setPair_28 rfl ?_
      refine gf_X0_28 C dX0_setPair_29 ?_
      refine at_iload_n C 2 dX0_setPair_32 rfl ?_
      refine at_bipush C (10 : Int32) dX0_setPair_33 (by decide) ?_
      refine at_imul C dX0_setPair_35 ?_
      refine at_iload_n C 1 dX0_setPair_36 rfl ?_
      refine at_iadd C dX0_setPair_37 ?_
      refine at_iload_n C 3 dX0_setPair_38 rfl ?_
      refine at_iast C (c := 9) rfl (fun f => ac_ast_9 _ _ _ _ f) (iv_in (n := 100) (iv_add (iv_mul f91 (iv_wk (c := 0) (iv_c (c := 10) (x := (10 : Int32)) (by decide)) (by decide) (Int.le_refl _)) (by decide)) f87 (by decide) (by decide)) (by decide) (by decide)) dX0_setPair_39 ?_
      have hJ94 := Inv.sa (c := 9) (i := (((x2 * (10 : Int32)) + x1)).toNatClampNeg) hJ93 (show iv 0 2 x3 from g3)
      exact hR _ _ _ dX0_setPair_40 (Or.inr ⟨(by have := c85; have := c89; omega), rfl, hJ94⟩)
    · refine at_if_eq C 40 dX0_setPair_13 (by decide) (fun c95 => ?_) (fun c95 => absurd (iv_xne (iv_c (c := 0) (x := (0 : Int32)) (by decide)) (iv_c (c := 0) (x := (0 : Int32)) (by decide))) c95)
      exact hR _ _ _ dX0_setPair_40 (Or.inl ⟨(by have := c85; have := c89; omega), rfl, hI⟩)
  · refine at_if_eq C 40 dX0_setPair_5 (by decide) (fun c96 => ?_) (fun c96 => absurd (iv_xne (iv_c (c := 0) (x := (0 : Int32)) (by decide)) (iv_c (c := 0) (x := (0 : Int32)) (by decide))) c96)
    exact hR _ _ _ dX0_setPair_40 (Or.inl ⟨(by have := c85; omega), rfl, hI⟩)
set_option maxHeartbeats 4000000 in
set_option maxRecDepth 100000 in
theorem ct_X0_shutFor (σ : SS) (x1 : Int32) (x2 : Int32) (x3 : Int32) (hI : Inv σ) : ConI yX0_shutFor cX0_shutFor 5 (some .int) 0 (some 1) [.int x1, .int x2, .int x3] σ (fun r σ' => σ = σ' ∧ iv 0 56 r) := by
  refine conI_of (by decide) (fun q => Nat.le_of_ble_eq_true rfl) (fun E C en hR => ?_)
  have hn4 : 4 < e_n E := by rw [en]; decide
  refine at_iload_n C 1 dX0_shutFor_0 rfl ?_
  refine at_bipush C (10 : Int32) dX0_shutFor_1 (by decide) ?_
  refine at_imul C dX0_shutFor_3 ?_
  refine at_iload_n C 2 dX0_shutFor_4 rfl ?_
  refine at_iadd C dX0_shutFor_5 ?_
  refine at_istore C (lv' := [(4, .int ((x1 * (10 : Int32)) + x2)), (0, .ref (e_q E 1)), (1, .int x1), (2, .int x2), (3, .int x3)]) dX0_shutFor_6 hn4 rfl ?_
  refine at_iload C 0 dX0_shutFor_8 rfl ?_
  refine at_if_lt C 33 dX0_shutFor_10 (by decide) (fun c85 => ?_) (fun c85 => ?_)
  · have f86 : iv (-2147483648) (-1) ((x1 * (10 : Int32)) + x2) := (iv_ltl (iv_any ((x1 * (10 : Int32)) + x2)) (iv_c (c := 0) (x := (0 : Int32)) (by decide)) c85)
    refine at_iconst C (0 : Int32) dX0_shutFor_33 (by decide) ?_
    exact hR _ _ _ _ dX0_shutFor_34 ⟨rfl, (iv_wk (iv_c (c := 0) (x := (0 : Int32)) (by decide)) (by decide) (by decide) : iv 0 56 (0 : Int32))⟩
  · have f87 : iv 0 2147483647 ((x1 * (10 : Int32)) + x2) := (iv_ler (iv_c (c := 0) (x := (0 : Int32)) (by decide)) (iv_any ((x1 * (10 : Int32)) + x2)) (Int32.not_lt.mp c85))
    refine at_iload C 0 dX0_shutFor_13 rfl ?_
    refine at_aload_n C 1 dX0_shutFor_15 rfl ?_
    refine gf_X0_28 C dX0_shutFor_16 ?_
    refine at_alen C (c := 9) 0 100 rfl rfl (by decide) dX0_shutFor_19 ?_
    refine at_icmp_ge C 33 dX0_shutFor_20 (by decide) (fun c88 => ?_) (fun c88 => ?_)
    · have f89 : iv 100 2147483647 ((x1 * (10 : Int32)) + x2) := (iv_ler (iv_c (c := 100) (x := (100 : Int32)) (by decide)) f87 c88)
      refine at_iconst C (0 : Int32) dX0_shutFor_33 (by decide) ?_
      exact hR _ _ _ _ dX0_shutFor_34 ⟨rfl, (iv_wk (iv_c (c := 0) (x := (0 : Int32)) (by decide)) (by decide) (by decide) : iv 0 56 (0 : Int32))⟩
    · have f90 : iv 0 99 ((x1 * (10 : Int32)) + x2) := (iv_ltl f87 (iv_c (c := 100) (x := (100 : Int32)) (by decide)) (Int32.not_le.mp c88))
      refine at_iload_n C 4 dX0_shutFor_23 rfl ?_
      refine at_if_lt C 33 dX0_shutFor_24 (by decide) (fun c91 => ?_) (fun c91 => ?_)
      · have f92 : iv (-2147483648) (-1) x3 := (iv_ltl (iv_any x3) (iv_c (c := 0) (x := (0 : Int32)) (by decide)) c91)
        refine at_iconst C (0 : Int32) dX0_shutFor_33 (by decide) ?_
        exact hR _ _ _ _ dX0_shutFor_34 ⟨rfl, (iv_wk (iv_c (c := 0) (x := (0 : Int32)) (by decide)) (by decide) (by decide) : iv 0 56 (0 : Int32))⟩
      · have f93 : iv 0 2147483647 x3 := (iv_ler (iv_c (c := 0) (x := (0 : Int32)) (by decide)) (iv_any x3) (Int32.not_lt.mp c91))
        refine at_iload_n C 4 dX0_shutFor_27 rfl ?_
        refine at_bipush C (6 : Int32) dX0_shutFor_28 (by decide) ?_
        refine at_icmp_lt C 35 dX0_shutFor_30 (by decide) (fun c94 => ?_) (fun c94 => ?_)
        · have f95 : iv 0 5 x3 := (iv_ltl f93 (iv_c (c := 6) (x := (6 : Int32)) (by decide)) c94)
          refine at_shut C dX0_shutFor_35 fl_X0_35 ?_
          refine at_aload_n C 1 dX0_shutFor_38 rfl ?_
          refine gf_X0_28 C dX0_shutFor_39 ?_
          refine at_iload C 0 dX0_shutFor_42 rfl ?_
          refine at_iald C (c := 9) rfl (iv_in (n := 100) f90 (by decide) (by decide)) dX0_shutFor_44 ?_
          refine at_bipush C (6 : Int32) dX0_shutFor_45 (by decide) ?_
          refine at_imul C dX0_shutFor_47 ?_
          refine at_iload_n C 4 dX0_shutFor_48 rfl ?_
          refine at_iadd C dX0_shutFor_49 ?_
          refine at_shld C (iv_in (n := 18) (iv_add (iv_mul (show iv 0 2 (ac_ga σ 9 (((x1 * (10 : Int32)) + x2)).toNatClampNeg) from hI.2 9 _) (iv_wk (c := 0) (iv_c (c := 6) (x := (6 : Int32)) (by decide)) (by decide) (Int.le_refl _)) (by decide)) f95 (by decide) (by decide)) (by decide) (by decide)) dX0_shutFor_50 ?_
          exact hR _ _ _ _ dX0_shutFor_51 ⟨rfl, (show iv 0 56 (ac_shut ((((ac_ga σ 9 (((x1 * (10 : Int32)) + x2)).toNatClampNeg) * (6 : Int32)) + x3)).toNatClampNeg) from (ac_shut_iv _))⟩
        · have f96 : iv 6 2147483647 x3 := (iv_ler (iv_c (c := 6) (x := (6 : Int32)) (by decide)) f93 (Int32.not_lt.mp c94))
          refine at_iconst C (0 : Int32) dX0_shutFor_33 (by decide) ?_
          exact hR _ _ _ _ dX0_shutFor_34 ⟨rfl, (iv_wk (iv_c (c := 0) (x := (0 : Int32)) (by decide)) (by decide) (by decide) : iv 0 56 (0 : Int32))⟩
