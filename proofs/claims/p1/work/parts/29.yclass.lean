/-! A new object: no loop over what isn't there. -/
theorem iv_no {P : Prop} {a b : Int} {x : Int32} (h : iv a b x) (hab : b < a) : P := absurd (Int.le_trans h.1 h.2) (by omega)
theorem iv_ushr0 {x y : Int32} (hx : iv 0 0 x) : iv 0 0 (ac_ushr x y) := by
  have e : x = 0 := iv_xne hx (iv_c (c := 0) (x := (0 : Int32)) (by decide))
  have h : ac_ushr 0 y = 0 := by
    unfold ac_ushr
    have h1 : Int32.toUInt32 0 >>> (y.toUInt32 &&& Int32.toUInt32 31) = 0 := by
      apply UInt32.toBitVec_inj.mp
      simp
    rw [h1]
    rfl
  rw [e, h]
  exact ⟨by decide, by decide⟩
set_option maxHeartbeats 4000000 in
set_option maxRecDepth 100000 in
theorem cz_J6_bitCount_0f7a4 (σ : SS) (x1 : Int32) (hI : Inv σ) (g1 : iv 0 0 x1) : ConI yJ6_bitCount_0f7a4 cJ6_bitCount_0f7a4 1 (some .int) 0 none [.int x1] σ (fun r σ' => (r = (0 : Int32) ∧ σ = σ' ∧ Inv σ')) := by
  refine conI_of (by decide) (fun q => Nat.le_of_ble_eq_true rfl) (fun E C en hR => ?_)
  have hn0 : 0 < e_n E := by rw [en]; decide
  refine at_iload_n C 0 dJ6_bitCount_0f7a4_0 rfl ?_
  refine at_iload_n C 0 dJ6_bitCount_0f7a4_1 rfl ?_
  refine at_iconst C (1 : Int32) dJ6_bitCount_0f7a4_2 (by decide) ?_
  refine at_iushr C dJ6_bitCount_0f7a4_3 ?_
  refine at_ldcw C (1431655765 : Int32) dJ6_bitCount_0f7a4_4 kc_J6_265 ?_
  refine at_iand C dJ6_bitCount_0f7a4_7 ?_
  refine at_isub C dJ6_bitCount_0f7a4_8 ?_
  refine at_istore_n C (lv' := [(0, .int (x1 - ((ac_ushr x1 (1 : Int32)) &&& (1431655765 : Int32))))]) dJ6_bitCount_0f7a4_9 hn0 rfl ?_
  refine at_iload_n C 0 dJ6_bitCount_0f7a4_10 rfl ?_
  refine at_ldcw C (858993459 : Int32) dJ6_bitCount_0f7a4_11 kc_J6_266 ?_
  refine at_iand C dJ6_bitCount_0f7a4_14 ?_
  refine at_iload_n C 0 dJ6_bitCount_0f7a4_15 rfl ?_
  refine at_iconst C (2 : Int32) dJ6_bitCount_0f7a4_16 (by decide) ?_
  refine at_iushr C dJ6_bitCount_0f7a4_17 ?_
  refine at_ldcw C (858993459 : Int32) dJ6_bitCount_0f7a4_18 kc_J6_266 ?_
  refine at_iand C dJ6_bitCount_0f7a4_21 ?_
  refine at_iadd C dJ6_bitCount_0f7a4_22 ?_
  refine at_istore_n C (lv' := [(0, .int (((x1 - ((ac_ushr x1 (1 : Int32)) &&& (1431655765 : Int32))) &&& (858993459 : Int32)) + ((ac_ushr (x1 - ((ac_ushr x1 (1 : Int32)) &&& (1431655765 : Int32))) (2 : Int32)) &&& (858993459 : Int32))))]) dJ6_bitCount_0f7a4_23 hn0 rfl ?_
  refine at_iload_n C 0 dJ6_bitCount_0f7a4_24 rfl ?_
  refine at_iload_n C 0 dJ6_bitCount_0f7a4_25 rfl ?_
  refine at_iconst C (4 : Int32) dJ6_bitCount_0f7a4_26 (by decide) ?_
  refine at_iushr C dJ6_bitCount_0f7a4_27 ?_
  refine at_iadd C dJ6_bitCount_0f7a4_28 ?_
  refine at_ldcw C (252645135 : Int32) dJ6_bitCount_0f7a4_29 kc_J6_267 ?_
  refine at_iand C dJ6_bitCount_0f7a4_32 ?_
  refine at_istore_n C (lv' := [(0, .int (((((x1 - ((ac_ushr x1 (1 : Int32)) &&& (1431655765 : Int32))) &&& (858993459 : Int32)) + ((ac_ushr (x1 - ((ac_ushr x1 (1 : Int32)) &&& (1431655765 : Int32))) (2 : Int32)) &&& (858993459 : Int32))) + (ac_ushr (((x1 - ((ac_ushr x1 (1 : Int32)) &&& (1431655765 : Int32))) &&& (858993459 : Int32)) + ((ac_ushr (x1 - ((ac_ushr x1 (1 : Int32)) &&& (1431655765 : Int32))) (2 : Int32)) &&& (858993459 : Int32))) (4 : Int32))) &&& (252645135 : Int32)))]) dJ6_bitCount_0f7a4_33 hn0 rfl ?_
  refine at_iload_n C 0 dJ6_bitCount_0f7a4_34 rfl ?_
  refine at_iload_n C 0 dJ6_bitCount_0f7a4_35 rfl ?_
  refine at_bipush C (8 : Int32) dJ6_bitCount_0f7a4_36 (by decide) ?_
  refine at_iushr C dJ6_bitCount_0f7a4_38 ?_
  refine at_iadd C dJ6_bitCount_0f7a4_39 ?_
  refine at_istore_n C (lv' := [(0, .int ((((((x1 - ((ac_ushr x1 (1 : Int32)) &&& (1431655765 : Int32))) &&& (858993459 : Int32)) + ((ac_ushr (x1 - ((ac_ushr x1 (1 : Int32)) &&& (1431655765 : Int32))) (2 : Int32)) &&& (858993459 : Int32))) + (ac_ushr (((x1 - ((ac_ushr x1 (1 : Int32)) &&& (1431655765 : Int32))) &&& (858993459 : Int32)) + ((ac_ushr (x1 - ((ac_ushr x1 (1 : Int32)) &&& (1431655765 : Int32))) (2 : Int32)) &&& (858993459 : Int32))) (4 : Int32))) &&& (252645135 : Int32)) + (ac_ushr (((((x1 - ((ac_ushr x1 (1 : Int32)) &&& (1431655765 : Int32))) &&& (858993459 : Int32)) + ((ac_ushr (x1 - ((ac_ushr x1 (1 : Int32)) &&& (1431655765 : Int32))) (2 : Int32)) &&& (858993459 : Int32))) + (ac_ushr (((x1 - ((ac_ushr x1 (1 : Int32)) &&& (1431655765 : Int32))) &&& (858993459 : Int32)) + ((ac_ushr (x1 - ((ac_ushr x1 (1 : Int32)) &&& (1431655765 : Int32))) (2 : Int32)) &&& (858993459 : Int32))) (4 : Int32))) &&& (252645135 : Int32)) (8 : Int32))))]) dJ6_bitCount_0f7a4_40 hn0 rfl ?_
  refine at_iload_n C 0 dJ6_bitCount_0f7a4_41 rfl ?_
  refine at_iload_n C 0 dJ6_bitCount_0f7a4_42 rfl ?_
  refine at_bipush C (16 : Int32) dJ6_bitCount_0f7a4_43 (by decide) ?_
  refine at_iushr C dJ6_bitCount_0f7a4_45 ?_
  refine at_iadd C dJ6_bitCount_0f7a4_46 ?_
  refine at_istore_n C (lv' := [(0, .int (((((((x1 - ((ac_ushr x1 (1 : Int32)) &&& (1431655765 : Int32))) &&& (858993459 : Int32)) + ((ac_ushr (x1 - ((ac_ushr x1 (1 : Int32)) &&& (1431655765 : Int32))) (2 : Int32)) &&& (858993459 : Int32))) + (ac_ushr (((x1 - ((ac_ushr x1 (1 : Int32)) &&& (1431655765 : Int32))) &&& (858993459 : Int32)) + ((ac_ushr (x1 - ((ac_ushr x1 (1 : Int32)) &&& (1431655765 : Int32))) (2 : Int32)) &&& (858993459 : Int32))) (4 : Int32))) &&& (252645135 : Int32)) + (ac_ushr (((((x1 - ((ac_ushr x1 (1 : Int32)) &&& (1431655765 : Int32))) &&& (858993459 : Int32)) + ((ac_ushr (x1 - ((ac_ushr x1 (1 : Int32)) &&& (1431655765 : Int32))) (2 : Int32)) &&& (858993459 : Int32))) + (ac_ushr (((x1 - ((ac_ushr x1 (1 : Int32)) &&& (1431655765 : Int32))) &&& (858993459 : Int32)) + ((ac_ushr (x1 - ((ac_ushr x1 (1 : Int32)) &&& (1431655765 : Int32))) (2 : Int32)) &&& (858993459 : Int32))) (4 : Int32))) &&& (252645135 : Int32)) (8 : Int32))) + (ac_ushr ((((((x1 - ((ac_ushr x1 (1 : Int32)) &&& (1431655765 : Int32))) &&& (858993459 : Int32)) + ((ac_ushr (x1 - ((ac_ushr x1 (1 : Int32)) &&& (1431655765 : Int32))) (2 : Int32)) &&& (858993459 : Int32))) + (ac_ushr (((x1 - ((ac_ushr x1 (1 : Int32)) &&& (1431655765 : Int32))) &&& (858993459 : Int32)) + ((ac_ushr (x1 - ((ac_ushr x1 (1 : Int32)) &&& (1431655765 : Int32))) (2 : Int32)) &&& (858993459 : Int32))) (4 : Int32))) &&& (252645135 : Int32)) + (ac_ushr (((((x1 - ((ac_ushr x1 (1 : Int32)) &&& (1431655765 : Int32))) &&& (858993459 : Int32)) + ((ac_ushr (x1 - ((ac_ushr x1 (1 : Int32)) &&& (1431655765 : Int32))) (2 : Int32)) &&& (858993459 : Int32))) + (ac_ushr (((x1 - ((ac_ushr x1 (1 : Int32)) &&& (1431655765 : Int32))) &&& (858993459 : Int32)) + ((ac_ushr (x1 - ((ac_ushr x1 (1 : Int32)) &&& (1431655765 : Int32))) (2 : Int32)) &&& (858993459 : Int32))) (4 : Int32))) &&& (252645135 : Int32)) (8 : Int32))) (16 : Int32))))]) dJ6_bitCount_0f7a4_47 hn0 rfl ?_
  refine at_iload_n C 0 dJ6_bitCount_0f7a4_48 rfl ?_
  refine at_bipush C (63 : Int32) dJ6_bitCount_0f7a4_49 (by decide) ?_
  refine at_iand C dJ6_bitCount_0f7a4_51 ?_
  exact hR _ _ _ _ dJ6_bitCount_0f7a4_52 ⟨(iv_xne (show iv 0 0 ((((((((x1 - ((ac_ushr x1 (1 : Int32)) &&& (1431655765 : Int32))) &&& (858993459 : Int32)) + ((ac_ushr (x1 - ((ac_ushr x1 (1 : Int32)) &&& (1431655765 : Int32))) (2 : Int32)) &&& (858993459 : Int32))) + (ac_ushr (((x1 - ((ac_ushr x1 (1 : Int32)) &&& (1431655765 : Int32))) &&& (858993459 : Int32)) + ((ac_ushr (x1 - ((ac_ushr x1 (1 : Int32)) &&& (1431655765 : Int32))) (2 : Int32)) &&& (858993459 : Int32))) (4 : Int32))) &&& (252645135 : Int32)) + (ac_ushr (((((x1 - ((ac_ushr x1 (1 : Int32)) &&& (1431655765 : Int32))) &&& (858993459 : Int32)) + ((ac_ushr (x1 - ((ac_ushr x1 (1 : Int32)) &&& (1431655765 : Int32))) (2 : Int32)) &&& (858993459 : Int32))) + (ac_ushr (((x1 - ((ac_ushr x1 (1 : Int32)) &&& (1431655765 : Int32))) &&& (858993459 : Int32)) + ((ac_ushr (x1 - ((ac_ushr x1 (1 : Int32)) &&& (1431655765 : Int32))) (2 : Int32)) &&& (858993459 : Int32))) (4 : Int32))) &&& (252645135 : Int32)) (8 : Int32))) + (ac_ushr ((((((x1 - ((ac_ushr x1 (1 : Int32)) &&& (1431655765 : Int32))) &&& (858993459 : Int32)) + ((ac_ushr (x1 - ((ac_ushr x1 (1 : Int32)) &&& (1431655765 : Int32))) (2 : Int32)) &&& (858993459 : Int32))) + (ac_ushr (((x1 - ((ac_ushr x1 (1 : Int32)) &&& (1431655765 : Int32))) &&& (858993459 : Int32)) + ((ac_ushr (x1 - ((ac_ushr x1 (1 : Int32)) &&& (1431655765 : Int32))) (2 : Int32)) &&& (858993459 : Int32))) (4 : Int32))) &&& (252645135 : Int32)) + (ac_ushr (((((x1 - ((ac_ushr x1 (1 : Int32)) &&& (1431655765 : Int32))) &&& (858993459 : Int32)) + ((ac_ushr (x1 - ((ac_ushr x1 (1 : Int32)) &&& (1431655765 : Int32))) (2 : Int32)) &&& (858993459 : Int32))) + (ac_ushr (((x1 - ((ac_ushr x1 (1 : Int32)) &&& (1431655765 : Int32))) &&& (858993459 : Int32)) + ((ac_ushr (x1 - ((ac_ushr x1 (1 : Int32)) &&& (1431655765 : Int32))) (2 : Int32)) &&& (858993459 : Int32))) (4 : Int32))) &&& (252645135 : Int32)) (8 : Int32))) (16 : Int32))) &&& (63 : Int32)) from (iv_andl (iv_add (iv_add (iv_andl (iv_add (iv_add (iv_andl (iv_sub g1 (iv_andl (iv_ushr0 g1)) (by decide) (by decide))) (iv_andl (iv_ushr0 (iv_sub g1 (iv_andl (iv_ushr0 g1)) (by decide) (by decide)))) (by decide) (by decide)) (iv_ushr0 (iv_add (iv_andl (iv_sub g1 (iv_andl (iv_ushr0 g1)) (by decide) (by decide))) (iv_andl (iv_ushr0 (iv_sub g1 (iv_andl (iv_ushr0 g1)) (by decide) (by decide)))) (by decide) (by decide))) (by decide) (by decide))) (iv_ushr0 (iv_andl (iv_add (iv_add (iv_andl (iv_sub g1 (iv_andl (iv_ushr0 g1)) (by decide) (by decide))) (iv_andl (iv_ushr0 (iv_sub g1 (iv_andl (iv_ushr0 g1)) (by decide) (by decide)))) (by decide) (by decide)) (iv_ushr0 (iv_add (iv_andl (iv_sub g1 (iv_andl (iv_ushr0 g1)) (by decide) (by decide))) (iv_andl (iv_ushr0 (iv_sub g1 (iv_andl (iv_ushr0 g1)) (by decide) (by decide)))) (by decide) (by decide))) (by decide) (by decide)))) (by decide) (by decide)) (iv_ushr0 (iv_add (iv_andl (iv_add (iv_add (iv_andl (iv_sub g1 (iv_andl (iv_ushr0 g1)) (by decide) (by decide))) (iv_andl (iv_ushr0 (iv_sub g1 (iv_andl (iv_ushr0 g1)) (by decide) (by decide)))) (by decide) (by decide)) (iv_ushr0 (iv_add (iv_andl (iv_sub g1 (iv_andl (iv_ushr0 g1)) (by decide) (by decide))) (iv_andl (iv_ushr0 (iv_sub g1 (iv_andl (iv_ushr0 g1)) (by decide) (by decide)))) (by decide) (by decide))) (by decide) (by decide))) (iv_ushr0 (iv_andl (iv_add (iv_add (iv_andl (iv_sub g1 (iv_andl (iv_ushr0 g1)) (by decide) (by decide))) (iv_andl (iv_ushr0 (iv_sub g1 (iv_andl (iv_ushr0 g1)) (by decide) (by decide)))) (by decide) (by decide)) (iv_ushr0 (iv_add (iv_andl (iv_sub g1 (iv_andl (iv_ushr0 g1)) (by decide) (by decide))) (iv_andl (iv_ushr0 (iv_sub g1 (iv_andl (iv_ushr0 g1)) (by decide) (by decide)))) (by decide) (by decide))) (by decide) (by decide)))) (by decide) (by decide))) (by decide) (by decide)))) (show iv 0 0 (0 : Int32) from (iv_c (c := 0) (x := (0 : Int32)) (by decide)))), rfl, hI⟩
set_option maxHeartbeats 4000000 in
set_option maxRecDepth 100000 in
theorem cz_X4_goOn (σ : SS) (x1 : Int32) (hI : Inv σ) (g1 : iv 0 0 x1) (gf11 : iv 0 0 (ac_gi σ 11)) : ConI yX4_goOn cX4_goOn 5 (some .int) 12 (some 2) [.int x1] σ (fun r σ' => (r = (1 : Int32) ∧ σ = σ' ∧ Inv σ')) := by
  refine conI_of (by decide) (fun q => Nat.le_of_ble_eq_true rfl) (fun E C en hR => ?_)
  have hn2 : 2 < e_n E := by rw [en]; decide
  have hn3 : 3 < e_n E := by rw [en]; decide
  have hn4 : 4 < e_n E := by rw [en]; decide
  refine at_iload_n C 1 dX4_goOn_0 rfl ?_
  refine at_aload_n C 0 dX4_goOn_1 rfl ?_
  refine gf_X4_15 C dX4_goOn_2 ?_
  refine at_icmp_ge C 14 dX4_goOn_5 (by decide) (fun c8 => ?_) (fun c8 => absurd (Int32.not_le.mp c8) (iv_xlt g1 gf11 (by decide)))
  refine at_iconst C (1 : Int32) dX4_goOn_14 (by decide) ?_
  exact hR _ _ _ _ dX4_goOn_15 ⟨rfl, rfl, hI⟩
set_option maxHeartbeats 4000000 in
set_option maxRecDepth 100000 in
theorem cz_X4_lookFor (σ : SS) (x1 : Int32) (hI : Inv σ) (gf0 : iv 0 0 (ac_gi σ 0)) : ConI yX4_lookFor cX4_lookFor 3 (some .int) 13 (some 2) [.int x1] σ (fun r σ' => (r = (1 : Int32) ∧ (ac_si (ac_si σ 11 (0 : Int32)) 10 (0 : Int32)) = σ' ∧ Inv σ')) := by
  refine conI_of (by decide) (fun q => Nat.le_of_ble_eq_true rfl) (fun E C en hR => ?_)
  have hn2 : 2 < e_n E := by rw [en]; decide
  refine at_aload_n C 0 dX4_lookFor_0 rfl ?_
  refine at_iconst C (0 : Int32) dX4_lookFor_1 (by decide) ?_
  refine pf_X4_15 C dX4_lookFor_2 ?_
  have hJ29 := Inv.si (k := 11) hI (iv_wk (iv_c (c := 0) (x := (0 : Int32)) (by decide)) (by decide) (by decide) : iv 0 10 (0 : Int32))
  refine at_aload_n C 0 dX4_lookFor_5 rfl ?_
  refine at_iconst C (0 : Int32) dX4_lookFor_6 (by decide) ?_
  refine pf_X4_9 C dX4_lookFor_7 ?_
  have hJ30 := Inv.si (k := 10) hJ29 (iv_wk (iv_c (c := 0) (x := (0 : Int32)) (by decide)) (by decide) (by decide) : iv (-2147483648) 2147483647 (0 : Int32))
  refine at_iconst C (0 : Int32) dX4_lookFor_10 (by decide) ?_
  refine at_istore_n C (lv' := [(2, .int (0 : Int32)), (0, .ref (e_q E 2)), (1, .int x1)]) dX4_lookFor_11 hn2 rfl ?_
  refine at_iload_n C 0 dX4_lookFor_12 rfl ?_
  refine at_aload_n C 1 dX4_lookFor_13 rfl ?_
  refine gf_X4_31 C dX4_lookFor_14 ?_
  refine gf_X4_35 C dX4_lookFor_17 ?_
  show AT E 20 [(2, .int (0 : Int32)), (0, .ref (e_q E 2)), (1, .int x1)] [.int (ac_gi σ 0), .int (0 : Int32)] (ac_si (ac_si σ 11 (0 : Int32)) 10 (0 : Int32))
  refine at_icmp_ge C 74 dX4_lookFor_20 (by decide) (fun c31 => ?_) (fun c31 => absurd (Int32.not_le.mp c31) (iv_xlt (iv_c (c := 0) (x := (0 : Int32)) (by decide)) gf0 (by decide)))
  refine at_aload_n C 1 dX4_lookFor_74 rfl ?_
  refine at_iconst C (0 : Int32) dX4_lookFor_75 (by decide) ?_
  refine at_Vi C (As := [.int (0 : Int32)]) (st := []) (b := 2) (ci := 4) (cz_X4_goOn (ac_si (ac_si σ 11 (0 : Int32)) 10 (0 : Int32)) (0 : Int32) hJ30 (show iv 0 0 (0 : Int32) from (iv_c (c := 0) (x := (0 : Int32)) (by decide))) (show iv 0 0 (0 : Int32) from (iv_c (c := 0) (x := (0 : Int32)) (by decide)))) mb_X4_goOn ml_X4_48 rfl rfl rfl (by decide) rfl (Nat.le_of_ble_eq_true rfl) dX4_lookFor_76 ?_
  rintro _ _ ⟨rfl, rfl, hJ32⟩
  · show AT E 79 [(2, .int (0 : Int32)), (0, .ref (e_q E 2)), (1, .int x1)] [.int (1 : Int32)] (ac_si (ac_si σ 11 (0 : Int32)) 10 (0 : Int32))
    exact hR _ _ _ _ dX4_lookFor_79 ⟨rfl, rfl, hJ30⟩
set_option maxHeartbeats 4000000 in
set_option maxRecDepth 100000 in
theorem cz_X3_allowAll (σ : SS) (hI : Inv σ) (gf0 : iv 0 0 (ac_gi σ 0)) : ConV yX3_allowAll cX3_allowAll 2 none 1 (some 3) [] σ (fun σ' => (σ = σ' ∧ Inv σ')) := by
  refine conV_of (by decide) (fun q => Nat.le_of_ble_eq_true rfl) (fun E C en hR => ?_)
  have hn1 : 1 < e_n E := by rw [en]; decide
  refine at_iconst C (0 : Int32) dX3_allowAll_0 (by decide) ?_
  refine at_istore_n C (lv' := [(1, .int (0 : Int32)), (0, .ref (e_q E 3))]) dX3_allowAll_1 hn1 rfl ?_
  refine at_iload_n C 0 dX3_allowAll_2 rfl ?_
  refine at_aload_n C 1 dX3_allowAll_3 rfl ?_
  refine gf_X3_21 C dX3_allowAll_4 ?_
  refine gf_X3_57 C dX3_allowAll_7 ?_
  refine at_icmp_ge C 33 dX3_allowAll_10 (by decide) (fun c8 => ?_) (fun c8 => absurd (Int32.not_le.mp c8) (iv_xlt (iv_c (c := 0) (x := (0 : Int32)) (by decide)) gf0 (by decide)))
  exact hR _ _ _ dX3_allowAll_33 ⟨rfl, hI⟩
set_option maxHeartbeats 4000000 in
set_option maxRecDepth 100000 in
theorem cz_X3_hardPart (σ : SS) (x1 : Int32) (hI : Inv σ) (g1 : iv 0 0 x1) (gf0 : iv 0 0 (ac_gi σ 0)) : ConI yX3_hardPart cX3_hardPart 6 (some .int) 3 (some 3) [.int x1] σ (fun r σ' => (r = (0 : Int32) ∧ σ = σ' ∧ Inv σ')) := by
  refine conI_of (by decide) (fun q => Nat.le_of_ble_eq_true rfl) (fun E C en hR => ?_)
  have hn2 : 2 < e_n E := by rw [en]; decide
  have hn3 : 3 < e_n E := by rw [en]; decide
  have hn4 : 4 < e_n E := by rw [en]; decide
  have hn5 : 5 < e_n E := by rw [en]; decide
  refine at_iload_n C 1 dX3_hardPart_0 rfl ?_
  refine at_istore_n C (lv' := [(2, .int x1), (0, .ref (e_q E 3)), (1, .int x1)]) dX3_hardPart_1 hn2 rfl ?_
  refine at_iconst C (0 : Int32) dX3_hardPart_2 (by decide) ?_
  refine at_istore_n C (lv' := [(3, .int (0 : Int32)), (2, .int x1), (0, .ref (e_q E 3)), (1, .int x1)]) dX3_hardPart_3 hn3 rfl ?_
  refine at_iload_n C 0 dX3_hardPart_4 rfl ?_
  refine at_bipush C (10 : Int32) dX3_hardPart_5 (by decide) ?_
  refine at_icmp_ge C 105 dX3_hardPart_7 (by decide) (fun c22 => absurd c22 (iv_xle (iv_c (c := 10) (x := (10 : Int32)) (by decide)) (iv_c (c := 0) (x := (0 : Int32)) (by decide)) (by decide))) (fun c22 => ?_)
  refine at_iload_n C 1 dX3_hardPart_10 rfl ?_
  refine at_istore C (lv' := [(4, .int x1), (3, .int (0 : Int32)), (2, .int x1), (0, .ref (e_q E 3)), (1, .int x1)]) dX3_hardPart_11 hn4 rfl ?_
  refine at_iconst C (0 : Int32) dX3_hardPart_13 (by decide) ?_
  refine at_istore C (lv' := [(5, .int (0 : Int32)), (4, .int x1), (3, .int (0 : Int32)), (2, .int x1), (0, .ref (e_q E 3)), (1, .int x1)]) dX3_hardPart_14 hn5 rfl ?_
  refine at_iload C 0 dX3_hardPart_16 rfl ?_
  refine at_aload_n C 4 dX3_hardPart_18 rfl ?_
  refine gf_X3_21 C dX3_hardPart_19 ?_
  refine gf_X3_57 C dX3_hardPart_22 ?_
  refine at_icmp_ge C 90 dX3_hardPart_25 (by decide) (fun c23 => ?_) (fun c23 => absurd (Int32.not_le.mp c23) (iv_xlt (iv_c (c := 0) (x := (0 : Int32)) (by decide)) gf0 (by decide)))
  refine at_iload_n C 3 dX3_hardPart_90 rfl ?_
  refine at_iload C 1 dX3_hardPart_91 rfl ?_
  refine at_icmp_ne C 99 dX3_hardPart_93 (by decide) (fun c24 => absurd (iv_xne g1 g1) c24) (fun c24 => ?_)
  refine at_goto C 105 dX3_hardPart_96 (by decide) ?_
  refine at_iload_n C 3 dX3_hardPart_105 rfl ?_
  exact hR _ _ _ _ dX3_hardPart_106 ⟨(iv_xne (show iv 0 0 x1 from g1) (show iv 0 0 (0 : Int32) from (iv_c (c := 0) (x := (0 : Int32)) (by decide)))), rfl, hI⟩
set_option maxHeartbeats 4000000 in
set_option maxRecDepth 100000 in
theorem cz_X3_packRest (σ : SS) (x1 : Int32) (x2 : Int32) (hI : Inv σ) (g1 : iv 0 0 x1) : ConI yX3_packRest cX3_packRest 7 (some .boolean) 13 (some 3) [.int x1, .int x2] σ (fun r σ' => (r = (1 : Int32) ∧ σ = σ' ∧ Inv σ')) := by
  refine conZ_of (by decide) (fun q => Nat.le_of_ble_eq_true rfl) (fun r u h => Or.inr h.1) (fun E C en hR => ?_)
  have hn3 : 3 < e_n E := by rw [en]; decide
  have hn4 : 4 < e_n E := by rw [en]; decide
  have hn5 : 5 < e_n E := by rw [en]; decide
  have hn6 : 6 < e_n E := by rw [en]; decide
  refine at_iload_n C 1 dX3_packRest_0 rfl ?_
  refine at_if_ne C 6 dX3_packRest_1 (by decide) (fun c8 => absurd (iv_xne g1 (iv_c (c := 0) (x := (0 : Int32)) (by decide))) c8) (fun c8 => ?_)
  refine at_iconst C (1 : Int32) dX3_packRest_4 (by decide) ?_
  exact hR _ _ _ _ dX3_packRest_5 ⟨rfl, rfl, hI⟩
set_option maxHeartbeats 4000000 in
set_option maxRecDepth 100000 in
theorem cz_X3_packs (σ : SS) (x1 : Int32) (hI : Inv σ) (g1 : iv 0 0 x1) (gf0 : iv 0 0 (ac_gi σ 0)) : ConI yX3_packs cX3_packs 4 (some .boolean) 14 (some 3) [.int x1] σ (fun r σ' => (r = (1 : Int32) ∧ σ = σ' ∧ Inv σ')) := by
  refine conZ_of (by decide) (fun q => Nat.le_of_ble_eq_true rfl) (fun r u h => Or.inr h.1) (fun E C en hR => ?_)
  have hn2 : 2 < e_n E := by rw [en]; decide
  have hn3 : 3 < e_n E := by rw [en]; decide
  refine at_aload_n C 0 dX3_packs_0 rfl ?_
  refine at_iload_n C 1 dX3_packs_1 rfl ?_
  refine at_Vi C (As := [.int x1]) (st := []) (b := 3) (ci := 3) (cz_X3_hardPart σ x1 hI (show iv 0 0 x1 from g1) (show iv 0 0 (ac_gi σ 0) from gf0)) mb_X3_hardPart ml_X3_67 rfl rfl rfl (by decide) rfl (Nat.le_of_ble_eq_true rfl) dX3_packs_2 ?_
  rintro _ _ ⟨rfl, rfl, hJ22⟩
  · show AT E 5 [(0, .ref (e_q E 3)), (1, .int x1)] [.int (0 : Int32)] σ
    refine at_istore_n C (lv' := [(2, .int (0 : Int32)), (0, .ref (e_q E 3)), (1, .int x1)]) dX3_packs_5 hn2 rfl ?_
    refine at_iconst C (0 : Int32) dX3_packs_6 (by decide) ?_
    refine at_istore_n C (lv' := [(3, .int (0 : Int32)), (2, .int (0 : Int32)), (0, .ref (e_q E 3)), (1, .int x1)]) dX3_packs_7 hn3 rfl ?_
    refine at_iload_n C 0 dX3_packs_8 rfl ?_
    refine at_aload_n C 2 dX3_packs_9 rfl ?_
    refine gf_X3_21 C dX3_packs_10 ?_
    refine gf_X3_57 C dX3_packs_13 ?_
    refine at_icmp_ge C 37 dX3_packs_16 (by decide) (fun c23 => ?_) (fun c23 => absurd (Int32.not_le.mp c23) (iv_xlt (iv_c (c := 0) (x := (0 : Int32)) (by decide)) gf0 (by decide)))
    refine at_aload_n C 2 dX3_packs_37 rfl ?_
    refine at_iload_n C 1 dX3_packs_38 rfl ?_
    refine at_iconst C (0 : Int32) dX3_packs_39 (by decide) ?_
    refine at_Vi C (As := [.int (0 : Int32), .int (0 : Int32)]) (st := []) (b := 3) (ci := 3) (cz_X3_packRest σ (0 : Int32) (0 : Int32) hI (show iv 0 0 (0 : Int32) from (iv_c (c := 0) (x := (0 : Int32)) (by decide)))) mb_X3_packRest ml_X3_70 rfl rfl rfl (by decide) rfl (Nat.le_of_ble_eq_true rfl) dX3_packs_40 ?_
    rintro _ _ ⟨rfl, rfl, hJ24⟩
    · show AT E 43 [(3, .int (0 : Int32)), (2, .int (0 : Int32)), (0, .ref (e_q E 3)), (1, .int x1)] [.int (1 : Int32)] σ
      exact hR _ _ _ _ dX3_packs_43 ⟨rfl, rfl, hI⟩
set_option maxHeartbeats 4000000 in
set_option maxRecDepth 100000 in
theorem cz_X3_canPack (σ : SS) (x1 : Int32) (hI : Inv σ) (g1 : iv 0 0 x1) (gf0 : iv 0 0 (ac_gi σ 0)) : ConI yX3_canPack cX3_canPack 2 (some .boolean) 15 (some 3) [.int x1] σ (fun r σ' => (r = (1 : Int32) ∧ σ = σ' ∧ Inv σ')) := by
  refine conZ_of (by decide) (fun q => Nat.le_of_ble_eq_true rfl) (fun r u h => Or.inr h.1) (fun E C en hR => ?_)
  refine at_aload_n C 0 dX3_canPack_0 rfl ?_
  refine at_Vv C (As := []) (st := []) (b := 3) (ci := 3) (cz_X3_allowAll σ hI (show iv 0 0 (ac_gi σ 0) from gf0)) mb_X3_allowAll ml_X3_25 rfl rfl rfl (by decide) rfl (Nat.le_of_ble_eq_true rfl) dX3_canPack_1 ?_
  rintro _ ⟨rfl, hJ15⟩
  · show AT E 4 [(0, .ref (e_q E 3)), (1, .int x1)] [] σ
    refine at_aload_n C 0 dX3_canPack_4 rfl ?_
    refine at_iload_n C 1 dX3_canPack_5 rfl ?_
    refine at_Vi C (As := [.int x1]) (st := []) (b := 3) (ci := 3) (cz_X3_packs σ x1 hI (show iv 0 0 x1 from g1) (show iv 0 0 (ac_gi σ 0) from gf0)) mb_X3_packs ml_X3_28 rfl rfl rfl (by decide) rfl (Nat.le_of_ble_eq_true rfl) dX3_canPack_6 ?_
    rintro _ _ ⟨rfl, rfl, hJ16⟩
    · show AT E 9 [(0, .ref (e_q E 3)), (1, .int x1)] [.int (1 : Int32)] σ
      exact hR _ _ _ _ dX3_canPack_9 ⟨rfl, rfl, hI⟩
set_option maxHeartbeats 4000000 in
set_option maxRecDepth 100000 in
theorem cz_X3_couldJoin (σ : SS) (x1 : Int32) (hI : Inv σ) (gf0 : iv 0 0 (ac_gi σ 0)) : ConI yX3_couldJoin cX3_couldJoin 4 (some .int) 16 (some 3) [.int x1] σ (fun r σ' => (r = (0 : Int32) ∧ σ = σ' ∧ Inv σ')) := by
  refine conI_of (by decide) (fun q => Nat.le_of_ble_eq_true rfl) (fun E C en hR => ?_)
  have hn2 : 2 < e_n E := by rw [en]; decide
  have hn3 : 3 < e_n E := by rw [en]; decide
  refine at_iconst C (0 : Int32) dX3_couldJoin_0 (by decide) ?_
  refine at_istore_n C (lv' := [(2, .int (0 : Int32)), (0, .ref (e_q E 3)), (1, .int x1)]) dX3_couldJoin_1 hn2 rfl ?_
  refine at_iconst C (0 : Int32) dX3_couldJoin_2 (by decide) ?_
  refine at_istore_n C (lv' := [(3, .int (0 : Int32)), (2, .int (0 : Int32)), (0, .ref (e_q E 3)), (1, .int x1)]) dX3_couldJoin_3 hn3 rfl ?_
  refine at_iload_n C 0 dX3_couldJoin_4 rfl ?_
  refine at_aload_n C 2 dX3_couldJoin_5 rfl ?_
  refine gf_X3_21 C dX3_couldJoin_6 ?_
  refine gf_X3_57 C dX3_couldJoin_9 ?_
  refine at_icmp_ge C 47 dX3_couldJoin_12 (by decide) (fun c8 => ?_) (fun c8 => absurd (Int32.not_le.mp c8) (iv_xlt (iv_c (c := 0) (x := (0 : Int32)) (by decide)) gf0 (by decide)))
  refine at_iload_n C 1 dX3_couldJoin_47 rfl ?_
  exact hR _ _ _ _ dX3_couldJoin_48 ⟨rfl, rfl, hI⟩
set_option maxHeartbeats 4000000 in
set_option maxRecDepth 100000 in
theorem cz_X1_letFall (σ : SS) (x1 : Int32) (x2 : Int32) (hI : Inv σ) (gf0 : iv 0 0 (ac_gi σ 0)) (gf4 : iv 0 0 (ac_gi σ 4)) : ConV yX1_letFall cX1_letFall 5 none 16 (some 4) [.int x1, .int x2] σ (fun σ' => ((ac_si (ac_si (ac_si σ 7 (0 : Int32)) 8 (0 : Int32)) 9 (0 : Int32)) = σ' ∧ Inv σ')) := by
  refine conV_of (by decide) (fun q => Nat.le_of_ble_eq_true rfl) (fun E C en hR => ?_)
  have hn3 : 3 < e_n E := by rw [en]; decide
  have hn4 : 4 < e_n E := by rw [en]; decide
  refine at_aload_n C 0 dX1_letFall_0 rfl ?_
  refine at_iconst C (0 : Int32) dX1_letFall_1 (by decide) ?_
  refine pf_X1_34 C dX1_letFall_2 ?_
  have hJ36 := Inv.si (k := 7) hI (iv_wk (iv_c (c := 0) (x := (0 : Int32)) (by decide)) (by decide) (by decide) : iv 0 1023 (0 : Int32))
  refine at_aload_n C 0 dX1_letFall_5 rfl ?_
  refine at_iconst C (0 : Int32) dX1_letFall_6 (by decide) ?_
  refine pf_X1_37 C dX1_letFall_7 ?_
  have hJ37 := Inv.si (k := 8) hJ36 (iv_wk (iv_c (c := 0) (x := (0 : Int32)) (by decide)) (by decide) (by decide) : iv 0 1023 (0 : Int32))
  refine at_aload_n C 0 dX1_letFall_10 rfl ?_
  refine at_iconst C (0 : Int32) dX1_letFall_11 (by decide) ?_
  refine pf_X1_40 C dX1_letFall_12 ?_
  have hJ38 := Inv.si (k := 9) hJ37 (iv_wk (iv_c (c := 0) (x := (0 : Int32)) (by decide)) (by decide) (by decide) : iv (-2147483648) 2147483647 (0 : Int32))
  refine at_iconst C (0 : Int32) dX1_letFall_15 (by decide) ?_
  refine at_istore_n C (lv' := [(3, .int (0 : Int32)), (0, .ref (e_q E 4)), (1, .int x1), (2, .int x2)]) dX1_letFall_16 hn3 rfl ?_
  refine at_iload_n C 0 dX1_letFall_17 rfl ?_
  refine at_bipush C (50 : Int32) dX1_letFall_18 (by decide) ?_
  refine at_icmp_gt C 124 dX1_letFall_20 (by decide) (fun c39 => absurd c39 (iv_xlt (iv_c (c := 50) (x := (50 : Int32)) (by decide)) (iv_c (c := 0) (x := (0 : Int32)) (by decide)) (by decide))) (fun c39 => ?_)
  refine at_aload_n C 1 dX1_letFall_23 rfl ?_
  refine gf_X1_34 C dX1_letFall_24 ?_
  show AT E 27 [(3, .int (0 : Int32)), (0, .ref (e_q E 4)), (1, .int x1), (2, .int x2)] [.int (0 : Int32)] (ac_si (ac_si (ac_si σ 7 (0 : Int32)) 8 (0 : Int32)) 9 (0 : Int32))
  refine at_aload_n C 1 dX1_letFall_27 rfl ?_
  refine gf_X1_37 C dX1_letFall_28 ?_
  show AT E 31 [(3, .int (0 : Int32)), (0, .ref (e_q E 4)), (1, .int x1), (2, .int x2)] [.int (0 : Int32), .int (0 : Int32)] (ac_si (ac_si (ac_si σ 7 (0 : Int32)) 8 (0 : Int32)) 9 (0 : Int32))
  refine at_ior C dX1_letFall_31 ?_
  refine at_aload_n C 1 dX1_letFall_32 rfl ?_
  refine gf_X1_9 C dX1_letFall_33 ?_
  show AT E 36 [(3, .int (0 : Int32)), (0, .ref (e_q E 4)), (1, .int x1), (2, .int x2)] [.int (ac_gi σ 4), .int ((0 : Int32) ||| (0 : Int32))] (ac_si (ac_si (ac_si σ 7 (0 : Int32)) 8 (0 : Int32)) 9 (0 : Int32))
  refine at_icmp_eq C 124 dX1_letFall_36 (by decide) (fun c40 => ?_) (fun c40 => absurd (iv_xne (iv_or 0 (iv_c (c := 0) (x := (0 : Int32)) (by decide)) (iv_c (c := 0) (x := (0 : Int32)) (by decide)) (by decide) (by decide) (by decide)) gf4) c40)
  exact hR _ _ _ dX1_letFall_124 ⟨rfl, hJ38⟩
set_option maxHeartbeats 4000000 in
set_option maxRecDepth 100000 in
theorem cz_X1_allPaid (σ : SS) (hI : Inv σ) (gf0 : iv 0 0 (ac_gi σ 0)) : ConI yX1_allPaid cX1_allPaid 3 (some .int) 1 (some 4) [] σ (fun r σ' => (r = (0 : Int32) ∧ σ = σ' ∧ Inv σ')) := by
  refine conI_of (by decide) (fun q => Nat.le_of_ble_eq_true rfl) (fun E C en hR => ?_)
  have hn1 : 1 < e_n E := by rw [en]; decide
  have hn2 : 2 < e_n E := by rw [en]; decide
  refine at_iconst C (0 : Int32) dX1_allPaid_0 (by decide) ?_
  refine at_istore_n C (lv' := [(1, .int (0 : Int32)), (0, .ref (e_q E 4))]) dX1_allPaid_1 hn1 rfl ?_
  refine at_iconst C (0 : Int32) dX1_allPaid_2 (by decide) ?_
  refine at_istore_n C (lv' := [(2, .int (0 : Int32)), (1, .int (0 : Int32)), (0, .ref (e_q E 4))]) dX1_allPaid_3 hn2 rfl ?_
  refine at_iload_n C 0 dX1_allPaid_4 rfl ?_
  refine at_aload_n C 2 dX1_allPaid_5 rfl ?_
  refine gf_X1_43 C dX1_allPaid_6 ?_
  refine gf_X1_61 C dX1_allPaid_9 ?_
  refine at_icmp_ge C 45 dX1_allPaid_12 (by decide) (fun c8 => ?_) (fun c8 => absurd (Int32.not_le.mp c8) (iv_xlt (iv_c (c := 0) (x := (0 : Int32)) (by decide)) gf0 (by decide)))
  refine at_iload_n C 1 dX1_allPaid_45 rfl ?_
  exact hR _ _ _ _ dX1_allPaid_46 ⟨rfl, rfl, hI⟩
set_option maxHeartbeats 4000000 in
set_option maxRecDepth 100000 in
theorem cz_X1_ending (σ : SS) (x1 : Int32) (hI : Inv σ) (gf0 : iv 0 0 (ac_gi σ 0)) (gf7 : iv 0 0 (ac_gi σ 7)) (gf8 : iv 0 0 (ac_gi σ 8)) (gf9 : iv 0 0 (ac_gi σ 9)) : ConI yX1_ending cX1_ending 2 (some .int) 2 (some 4) [.int x1] σ (fun r σ' => (r = (0 : Int32) ∧ σ = σ' ∧ Inv σ')) := by
  refine conI_of (by decide) (fun q => Nat.le_of_ble_eq_true rfl) (fun E C en hR => ?_)
  refine at_iload_n C 1 dX1_ending_0 rfl ?_
  by_cases c360 : x1 = (0 : Int32)
  · refine at_tabIn C 28 dX1_ending_1 (by rw [c360]; decide) (by rw [c360]; decide) (by rw [c360]; rfl) (by decide) ?_
    have f37 : iv 0 0 x1 := (iv_eql (iv_c (c := 0) (x := (0 : Int32)) (by decide)) c360)
    refine at_aload_n C 0 dX1_ending_28 rfl ?_
    refine gf_X1_34 C dX1_ending_29 ?_
    exact hR _ _ _ _ dX1_ending_32 ⟨(iv_xne (show iv 0 0 (ac_gi σ 7) from gf7) (show iv 0 0 (0 : Int32) from (iv_c (c := 0) (x := (0 : Int32)) (by decide)))), rfl, hI⟩
  by_cases c361 : x1 = (1 : Int32)
  · refine at_tabIn C 33 dX1_ending_1 (by rw [c361]; decide) (by rw [c361]; decide) (by rw [c361]; rfl) (by decide) ?_
    have f38 : iv 1 1 x1 := (iv_eql (iv_c (c := 1) (x := (1 : Int32)) (by decide)) c361)
    refine at_aload_n C 0 dX1_ending_33 rfl ?_
    refine gf_X1_37 C dX1_ending_34 ?_
    exact hR _ _ _ _ dX1_ending_37 ⟨(iv_xne (show iv 0 0 (ac_gi σ 8) from gf8) (show iv 0 0 (0 : Int32) from (iv_c (c := 0) (x := (0 : Int32)) (by decide)))), rfl, hI⟩
  by_cases c362 : x1 = (2 : Int32)
  · refine at_tabIn C 38 dX1_ending_1 (by rw [c362]; decide) (by rw [c362]; decide) (by rw [c362]; rfl) (by decide) ?_
    have f39 : iv 2 2 x1 := (iv_eql (iv_c (c := 2) (x := (2 : Int32)) (by decide)) c362)
    refine at_aload_n C 0 dX1_ending_38 rfl ?_
    refine gf_X1_40 C dX1_ending_39 ?_
    exact hR _ _ _ _ dX1_ending_42 ⟨(iv_xne (show iv 0 0 (ac_gi σ 9) from gf9) (show iv 0 0 (0 : Int32) from (iv_c (c := 0) (x := (0 : Int32)) (by decide)))), rfl, hI⟩
  refine at_tabOut C 43 dX1_ending_1 (tab_out (lo := 0) (hi := 2) (fun z1 z2 => by have := iv_ne c360; have := iv_ne c361; have := iv_ne c362; simp at *; omega)) (by decide) ?_
  refine at_aload_n C 0 dX1_ending_43 rfl ?_
  refine at_Vi C (As := []) (st := []) (b := 4) (ci := 1) (cz_X1_allPaid σ hI (show iv 0 0 (ac_gi σ 0) from gf0)) mb_X1_allPaid ml_X1_68 rfl rfl rfl (by decide) rfl (Nat.le_of_ble_eq_true rfl) dX1_ending_44 ?_
  rintro _ _ ⟨rfl, rfl, hJ40⟩
  · show AT E 47 [(0, .ref (e_q E 4)), (1, .int x1)] [.int (0 : Int32)] σ
    exact hR _ _ _ _ dX1_ending_47 ⟨rfl, rfl, hI⟩
set_option maxHeartbeats 4000000 in
set_option maxRecDepth 100000 in
theorem cz_X6_fits (σ : SS) (x1 : Int32) (hI : Inv σ) (gf0 : iv 0 0 (ac_gi σ 0)) : ConI yX6_fits cX6_fits 2 (some .int) 14 (some 0) [.int x1] σ (fun r σ' => ((¬ ((0 ≤ (x1).toInt ∧ (x1).toInt < ((1 : Int32) <<< (ac_gi σ 0 &&& 31)).toInt))) ∧ r = (-2 : Int32) ∧ σ = σ' ∧ Inv σ') ∨ (((0 ≤ (x1).toInt ∧ (x1).toInt < ((1 : Int32) <<< (ac_gi σ 0 &&& 31)).toInt)) ∧ r = (1 : Int32) ∧ (ac_si (ac_si σ 11 (0 : Int32)) 10 (0 : Int32)) = σ' ∧ Inv σ')) := by
  refine conI_of (by decide) (fun q => Nat.le_of_ble_eq_true rfl) (fun E C en hR => ?_)
  refine at_aload_n C 0 dX6_fits_0 rfl ?_
  refine gf_X6_12 C dX6_fits_1 ?_
  refine at_iload_n C 1 dX6_fits_4 rfl ?_
  refine at_Vi C (As := [.int x1]) (st := []) (b := 1) (ci := 0) (ct_X0_isSet σ x1) mb_X0_isSet ml_X6_95 rfl rfl rfl (by decide) rfl (Nat.le_of_ble_eq_true rfl) dX6_fits_5 ?_
  rintro _ _ ⟨rfl, ⟨rfl, c43⟩ | ⟨rfl, c43⟩⟩
  · have f45 : iv 0 0 x1 := (iv_of3 c43 (iv_shl1 (a := 0) (b := 0) gf0 (by decide)))
    refine at_if_eq C 22 dX6_fits_8 (by decide) (fun c46 => absurd c46 (iv_xeq (iv_c (c := 1) (x := (1 : Int32)) (by decide)) (iv_c (c := 0) (x := (0 : Int32)) (by decide)) (by decide))) (fun c46 => ?_)
    refine at_aload_n C 0 dX6_fits_11 rfl ?_
    refine gf_X6_21 C dX6_fits_12 ?_
    refine at_iload_n C 1 dX6_fits_15 rfl ?_
    refine at_Vi C (As := [.int x1]) (st := []) (b := 2) (ci := 4) (cz_X4_lookFor σ x1 hI (show iv 0 0 (ac_gi σ 0) from gf0)) mb_X4_lookFor ml_X6_98 rfl rfl rfl (by decide) rfl (Nat.le_of_ble_eq_true rfl) dX6_fits_16 ?_
    rintro _ _ ⟨rfl, rfl, hJ47⟩
    · show AT E 19 [(0, .ref (e_q E 0)), (1, .int x1)] [.int (1 : Int32)] (ac_si (ac_si σ 11 (0 : Int32)) 10 (0 : Int32))
      refine at_goto C 24 dX6_fits_19 (by decide) ?_
      exact hR _ _ _ _ dX6_fits_24 (Or.inr ⟨(by have t1 := iv_ne c46; have k0 : (0 : Int32).toInt = 0 := (by decide); have k1 : (1 : Int32).toInt = 1 := (by decide); have := c43; omega), rfl, rfl, hJ47⟩)
  · refine at_if_eq C 22 dX6_fits_8 (by decide) (fun c48 => ?_) (fun c48 => absurd (iv_xne (iv_c (c := 0) (x := (0 : Int32)) (by decide)) (iv_c (c := 0) (x := (0 : Int32)) (by decide))) c48)
    refine at_bipush C (-2 : Int32) dX6_fits_22 (by decide) ?_
    exact hR _ _ _ _ dX6_fits_24 (Or.inl ⟨(by have t1 := congrArg Int32.toInt c48; have k0 : (0 : Int32).toInt = 0 := (by decide); have := c43; omega), rfl, rfl, hI⟩)
set_option maxHeartbeats 4000000 in
set_option maxRecDepth 100000 in
theorem cz_X6_tries (σ : SS) (x1 : Int32) (hI : Inv σ) (gf0 : iv 0 0 (ac_gi σ 0)) : ConI yX6_tries cX6_tries 2 (some .int) 14 (some 0) [.int x1] σ (fun r σ' => ((¬ ((0 ≤ (x1).toInt ∧ (x1).toInt < ((1 : Int32) <<< (ac_gi σ 0 &&& 31)).toInt))) ∧ r = (-2 : Int32) ∧ σ = σ' ∧ Inv σ') ∨ (((0 ≤ (x1).toInt ∧ (x1).toInt < ((1 : Int32) <<< (ac_gi σ 0 &&& 31)).toInt)) ∧ r = (0 : Int32) ∧ (ac_si (ac_si σ 11 (0 : Int32)) 10 (0 : Int32)) = σ' ∧ Inv σ')) := by
  refine conI_of (by decide) (fun q => Nat.le_of_ble_eq_true rfl) (fun E C en hR => ?_)
  refine at_aload_n C 0 dX6_tries_0 rfl ?_
  refine gf_X6_12 C dX6_tries_1 ?_
  refine at_iload_n C 1 dX6_tries_4 rfl ?_
  refine at_Vi C (As := [.int x1]) (st := []) (b := 1) (ci := 0) (ct_X0_isSet σ x1) mb_X0_isSet ml_X6_95 rfl rfl rfl (by decide) rfl (Nat.le_of_ble_eq_true rfl) dX6_tries_5 ?_
  rintro _ _ ⟨rfl, ⟨rfl, c43⟩ | ⟨rfl, c43⟩⟩
  · have f45 : iv 0 0 x1 := (iv_of3 c43 (iv_shl1 (a := 0) (b := 0) gf0 (by decide)))
    refine at_if_ne C 14 dX6_tries_8 (by decide) (fun c46 => ?_) (fun c46 => absurd c46 (iv_xeq (iv_c (c := 1) (x := (1 : Int32)) (by decide)) (iv_c (c := 0) (x := (0 : Int32)) (by decide)) (by decide)))
    refine at_aload_n C 0 dX6_tries_14 rfl ?_
    refine gf_X6_21 C dX6_tries_15 ?_
    refine at_iload_n C 1 dX6_tries_18 rfl ?_
    refine at_Vi C (As := [.int x1]) (st := []) (b := 2) (ci := 4) (cz_X4_lookFor σ x1 hI (show iv 0 0 (ac_gi σ 0) from gf0)) mb_X4_lookFor ml_X6_98 rfl rfl rfl (by decide) rfl (Nat.le_of_ble_eq_true rfl) dX6_tries_19 ?_
    rintro _ _ ⟨rfl, rfl, hJ47⟩
    · show AT E 22 [(0, .ref (e_q E 0)), (1, .int x1)] [.int (1 : Int32)] (ac_si (ac_si σ 11 (0 : Int32)) 10 (0 : Int32))
      refine at_pop C dX6_tries_22 rfl ?_
      refine at_aload_n C 0 dX6_tries_23 rfl ?_
      refine gf_X6_21 C dX6_tries_24 ?_
      refine gf_X6_102 C dX6_tries_27 ?_
      show AT E 30 [(0, .ref (e_q E 0)), (1, .int x1)] [.int (0 : Int32)] (ac_si (ac_si σ 11 (0 : Int32)) 10 (0 : Int32))
      exact hR _ _ _ _ dX6_tries_30 (Or.inr ⟨(by have t1 := iv_ne c46; have k0 : (0 : Int32).toInt = 0 := (by decide); have k1 : (1 : Int32).toInt = 1 := (by decide); have := c43; omega), rfl, rfl, hJ47⟩)
  · refine at_if_ne C 14 dX6_tries_8 (by decide) (fun c48 => absurd (iv_xne (iv_c (c := 0) (x := (0 : Int32)) (by decide)) (iv_c (c := 0) (x := (0 : Int32)) (by decide))) c48) (fun c48 => ?_)
    refine at_bipush C (-2 : Int32) dX6_tries_11 (by decide) ?_
    exact hR _ _ _ _ dX6_tries_13 (Or.inl ⟨(by have t1 := congrArg Int32.toInt c48; have k0 : (0 : Int32).toInt = 0 := (by decide); have := c43; omega), rfl, rfl, hI⟩)
set_option maxHeartbeats 4000000 in
set_option maxRecDepth 100000 in
theorem cz_X6_packing (σ : SS) (x1 : Int32) (x2 : Int32) (hI : Inv σ) (gf0 : iv 0 0 (ac_gi σ 0)) : ConI yX6_packing cX6_packing 3 (some .int) 17 (some 0) [.int x1, .int x2] σ (fun r σ' => (r = (-2 : Int32) ∧ σ = σ' ∧ Inv σ')) := by
  refine conI_of (by decide) (fun q => Nat.le_of_ble_eq_true rfl) (fun E C en hR => ?_)
  refine at_aload_n C 0 dX6_packing_0 rfl ?_
  refine gf_X6_12 C dX6_packing_1 ?_
  refine at_iload_n C 1 dX6_packing_4 rfl ?_
  refine at_Vi C (As := [.int x1]) (st := []) (b := 1) (ci := 0) (ct_X0_isSet σ x1) mb_X0_isSet ml_X6_95 rfl rfl rfl (by decide) rfl (Nat.le_of_ble_eq_true rfl) dX6_packing_5 ?_
  rintro _ _ ⟨rfl, ⟨rfl, c64⟩ | ⟨rfl, c64⟩⟩
  · have f66 : iv 0 0 x1 := (iv_of3 c64 (iv_shl1 (a := 0) (b := 0) gf0 (by decide)))
    refine at_if_eq C 30 dX6_packing_8 (by decide) (fun c67 => absurd c67 (iv_xeq (iv_c (c := 1) (x := (1 : Int32)) (by decide)) (iv_c (c := 0) (x := (0 : Int32)) (by decide)) (by decide))) (fun c67 => ?_)
    refine at_aload_n C 0 dX6_packing_11 rfl ?_
    refine gf_X6_12 C dX6_packing_12 ?_
    refine at_iload_n C 2 dX6_packing_15 rfl ?_
    refine at_Vi C (As := [.int x2]) (st := []) (b := 1) (ci := 0) (ct_X0_isMast σ x2) mb_X0_isMast ml_X6_73 rfl rfl rfl (by decide) rfl (Nat.le_of_ble_eq_true rfl) dX6_packing_16 ?_
    rintro _ _ ⟨rfl, ⟨rfl, c68⟩ | ⟨rfl, c68⟩⟩
    · have f70 : iv 0 (-1) x2 := (iv_of3 c68 gf0)
      exact iv_no f70 (by decide)
    · refine at_if_eq C 30 dX6_packing_19 (by decide) (fun c71 => ?_) (fun c71 => absurd (iv_xne (iv_c (c := 0) (x := (0 : Int32)) (by decide)) (iv_c (c := 0) (x := (0 : Int32)) (by decide))) c71)
      refine at_bipush C (-2 : Int32) dX6_packing_30 (by decide) ?_
      exact hR _ _ _ _ dX6_packing_32 ⟨rfl, rfl, hI⟩
  · refine at_if_eq C 30 dX6_packing_8 (by decide) (fun c72 => ?_) (fun c72 => absurd (iv_xne (iv_c (c := 0) (x := (0 : Int32)) (by decide)) (iv_c (c := 0) (x := (0 : Int32)) (by decide))) c72)
    refine at_bipush C (-2 : Int32) dX6_packing_30 (by decide) ?_
    exact hR _ _ _ _ dX6_packing_32 ⟨rfl, rfl, hI⟩
set_option maxHeartbeats 4000000 in
set_option maxRecDepth 100000 in
theorem cz_X6_reason (σ : SS) (x1 : Int32) (hI : Inv σ) (gf0 : iv 0 0 (ac_gi σ 0)) : ConI yX6_reason cX6_reason 2 (some .int) 17 (some 0) [.int x1] σ (fun r σ' => ((¬ ((0 ≤ (x1).toInt ∧ (x1).toInt < ((1 : Int32) <<< (ac_gi σ 0 &&& 31)).toInt))) ∧ r = (-2 : Int32) ∧ σ = σ' ∧ Inv σ') ∨ (((0 ≤ (x1).toInt ∧ (x1).toInt < ((1 : Int32) <<< (ac_gi σ 0 &&& 31)).toInt)) ∧ r = (-3 : Int32) ∧ σ = σ' ∧ Inv σ')) := by
  refine conI_of (by decide) (fun q => Nat.le_of_ble_eq_true rfl) (fun E C en hR => ?_)
  refine at_aload_n C 0 dX6_reason_0 rfl ?_
  refine gf_X6_12 C dX6_reason_1 ?_
  refine at_iload_n C 1 dX6_reason_4 rfl ?_
  refine at_Vi C (As := [.int x1]) (st := []) (b := 1) (ci := 0) (ct_X0_isSet σ x1) mb_X0_isSet ml_X6_95 rfl rfl rfl (by decide) rfl (Nat.le_of_ble_eq_true rfl) dX6_reason_5 ?_
  rintro _ _ ⟨rfl, ⟨rfl, c50⟩ | ⟨rfl, c50⟩⟩
  · have f52 : iv 0 0 x1 := (iv_of3 c50 (iv_shl1 (a := 0) (b := 0) gf0 (by decide)))
    refine at_if_ne C 14 dX6_reason_8 (by decide) (fun c53 => ?_) (fun c53 => absurd c53 (iv_xeq (iv_c (c := 1) (x := (1 : Int32)) (by decide)) (iv_c (c := 0) (x := (0 : Int32)) (by decide)) (by decide)))
    refine at_aload_n C 0 dX6_reason_14 rfl ?_
    refine gf_X6_28 C dX6_reason_15 ?_
    refine at_iload_n C 1 dX6_reason_18 rfl ?_
    refine at_Vi C (As := [.int x1]) (st := []) (b := 3) (ci := 3) (cz_X3_canPack σ x1 hI (show iv 0 0 x1 from f52) (show iv 0 0 (ac_gi σ 0) from gf0)) mb_X3_canPack ml_X6_112 rfl rfl rfl (by decide) rfl (Nat.le_of_ble_eq_true rfl) dX6_reason_19 ?_
    rintro _ _ ⟨rfl, rfl, hJ54⟩
    · show AT E 22 [(0, .ref (e_q E 0)), (1, .int x1)] [.int (1 : Int32)] σ
      refine at_if_eq C 30 dX6_reason_22 (by decide) (fun c55 => absurd c55 (iv_xeq (iv_c (c := 1) (x := (1 : Int32)) (by decide)) (iv_c (c := 0) (x := (0 : Int32)) (by decide)) (by decide))) (fun c55 => ?_)
      refine at_bipush C (-3 : Int32) dX6_reason_25 (by decide) ?_
      refine at_goto C 38 dX6_reason_27 (by decide) ?_
      exact hR _ _ _ _ dX6_reason_38 (Or.inr ⟨(by have t1 := iv_ne c53; have t2 := iv_ne c55; have k0 : (0 : Int32).toInt = 0 := (by decide); have k1 : (1 : Int32).toInt = 1 := (by decide); have := c50; omega), rfl, rfl, hI⟩)
  · refine at_if_ne C 14 dX6_reason_8 (by decide) (fun c56 => absurd (iv_xne (iv_c (c := 0) (x := (0 : Int32)) (by decide)) (iv_c (c := 0) (x := (0 : Int32)) (by decide))) c56) (fun c56 => ?_)
    refine at_bipush C (-2 : Int32) dX6_reason_11 (by decide) ?_
    exact hR _ _ _ _ dX6_reason_13 (Or.inl ⟨(by have t1 := congrArg Int32.toInt c56; have k0 : (0 : Int32).toInt = 0 := (by decide); have := c50; omega), rfl, rfl, hI⟩)
set_option maxHeartbeats 4000000 in
set_option maxRecDepth 100000 in
theorem cz_X6_spare (σ : SS) (x1 : Int32) (hI : Inv σ) (gf0 : iv 0 0 (ac_gi σ 0)) : ConI yX6_spare cX6_spare 2 (some .int) 17 (some 0) [.int x1] σ (fun r σ' => ((¬ ((0 ≤ (x1).toInt ∧ (x1).toInt < ((1 : Int32) <<< (ac_gi σ 0 &&& 31)).toInt))) ∧ r = (-2 : Int32) ∧ σ = σ' ∧ Inv σ') ∨ (((0 ≤ (x1).toInt ∧ (x1).toInt < ((1 : Int32) <<< (ac_gi σ 0 &&& 31)).toInt)) ∧ r = (0 : Int32) ∧ σ = σ' ∧ Inv σ')) := by
  refine conI_of (by decide) (fun q => Nat.le_of_ble_eq_true rfl) (fun E C en hR => ?_)
  refine at_aload_n C 0 dX6_spare_0 rfl ?_
  refine gf_X6_12 C dX6_spare_1 ?_
  refine at_iload_n C 1 dX6_spare_4 rfl ?_
  refine at_Vi C (As := [.int x1]) (st := []) (b := 1) (ci := 0) (ct_X0_isSet σ x1) mb_X0_isSet ml_X6_95 rfl rfl rfl (by decide) rfl (Nat.le_of_ble_eq_true rfl) dX6_spare_5 ?_
  rintro _ _ ⟨rfl, ⟨rfl, c57⟩ | ⟨rfl, c57⟩⟩
  · have f59 : iv 0 0 x1 := (iv_of3 c57 (iv_shl1 (a := 0) (b := 0) gf0 (by decide)))
    refine at_if_ne C 14 dX6_spare_8 (by decide) (fun c60 => ?_) (fun c60 => absurd c60 (iv_xeq (iv_c (c := 1) (x := (1 : Int32)) (by decide)) (iv_c (c := 0) (x := (0 : Int32)) (by decide)) (by decide)))
    refine at_aload_n C 0 dX6_spare_14 rfl ?_
    refine gf_X6_28 C dX6_spare_15 ?_
    refine at_iload_n C 1 dX6_spare_18 rfl ?_
    refine at_Vi C (As := [.int x1]) (st := []) (b := 3) (ci := 3) (cz_X3_canPack σ x1 hI (show iv 0 0 x1 from f59) (show iv 0 0 (ac_gi σ 0) from gf0)) mb_X3_canPack ml_X6_112 rfl rfl rfl (by decide) rfl (Nat.le_of_ble_eq_true rfl) dX6_spare_19 ?_
    rintro _ _ ⟨rfl, rfl, hJ61⟩
    · show AT E 22 [(0, .ref (e_q E 0)), (1, .int x1)] [.int (1 : Int32)] σ
      refine at_if_eq C 36 dX6_spare_22 (by decide) (fun c62 => absurd c62 (iv_xeq (iv_c (c := 1) (x := (1 : Int32)) (by decide)) (iv_c (c := 0) (x := (0 : Int32)) (by decide)) (by decide))) (fun c62 => ?_)
      refine at_aload_n C 0 dX6_spare_25 rfl ?_
      refine gf_X6_28 C dX6_spare_26 ?_
      refine at_iload_n C 1 dX6_spare_29 rfl ?_
      refine at_Vi C (As := [.int x1]) (st := []) (b := 3) (ci := 3) (cz_X3_couldJoin σ x1 hI (show iv 0 0 (ac_gi σ 0) from gf0)) mb_X3_couldJoin ml_X6_118 rfl rfl rfl (by decide) rfl (Nat.le_of_ble_eq_true rfl) dX6_spare_30 ?_
      rintro _ _ ⟨rfl, rfl, hJ63⟩
      · show AT E 33 [(0, .ref (e_q E 0)), (1, .int x1)] [.int (0 : Int32)] σ
        refine at_goto C 38 dX6_spare_33 (by decide) ?_
        exact hR _ _ _ _ dX6_spare_38 (Or.inr ⟨(by have t1 := iv_ne c60; have t2 := iv_ne c62; have k0 : (0 : Int32).toInt = 0 := (by decide); have k1 : (1 : Int32).toInt = 1 := (by decide); have := c57; omega), rfl, rfl, hI⟩)
  · refine at_if_ne C 14 dX6_spare_8 (by decide) (fun c64 => absurd (iv_xne (iv_c (c := 0) (x := (0 : Int32)) (by decide)) (iv_c (c := 0) (x := (0 : Int32)) (by decide))) c64) (fun c64 => ?_)
    refine at_bipush C (-2 : Int32) dX6_spare_11 (by decide) ?_
    exact hR _ _ _ _ dX6_spare_13 (Or.inl ⟨(by have t1 := congrArg Int32.toInt c64; have k0 : (0 : Int32).toInt = 0 := (by decide); have := c57; omega), rfl, rfl, hI⟩)
set_option maxHeartbeats 4000000 in
set_option maxRecDepth 100000 in
theorem cz_X6_run (σ : SS) (x1 : Int32) (hI : Inv σ) (gf0 : iv 0 0 (ac_gi σ 0)) (gf4 : iv 0 0 (ac_gi σ 4)) : ConI yX6_run cX6_run 2 (some .int) 17 (some 0) [.int x1] σ (fun r σ' => ((¬ ((0 ≤ (x1).toInt ∧ (x1).toInt ≤ 3))) ∧ r = (-2 : Int32) ∧ σ = σ' ∧ Inv σ') ∨ (((0 ≤ (x1).toInt ∧ (x1).toInt ≤ 3)) ∧ r = (0 : Int32) ∧ (ac_si (ac_si (ac_si σ 7 (0 : Int32)) 8 (0 : Int32)) 9 (0 : Int32)) = σ' ∧ Inv σ')) := by
  refine conI_of (by decide) (fun q => Nat.le_of_ble_eq_true rfl) (fun E C en hR => ?_)
  refine at_iload_n C 1 dX6_run_0 rfl ?_
  refine at_iconst C (0 : Int32) dX6_run_1 (by decide) ?_
  refine at_iconst C (3 : Int32) dX6_run_2 (by decide) ?_
  refine at_Si C (As := [.int x1, .int (0 : Int32), .int (3 : Int32)]) (st := []) (ct_X6_within σ x1 (0 : Int32) (3 : Int32)) mb_X6_within ml_X6_66 rfl (by decide) rfl (Nat.le_of_ble_eq_true rfl) dX6_run_3 ?_
  rintro _ _ ⟨rfl, ⟨rfl, c50⟩ | ⟨rfl, c50⟩⟩
  · have f52 : iv 0 3 x1 := (iv_of2 c50 (iv_c (c := 0) (x := (0 : Int32)) (by decide)) (iv_c (c := 3) (x := (3 : Int32)) (by decide)))
    refine at_if_ne C 12 dX6_run_6 (by decide) (fun c53 => ?_) (fun c53 => absurd c53 (iv_xeq (iv_c (c := 1) (x := (1 : Int32)) (by decide)) (iv_c (c := 0) (x := (0 : Int32)) (by decide)) (by decide)))
    refine at_aload_n C 0 dX6_run_12 rfl ?_
    refine gf_X6_37 C dX6_run_13 ?_
    refine at_iconst C (-1 : Int32) dX6_run_16 (by decide) ?_
    refine at_iconst C (0 : Int32) dX6_run_17 (by decide) ?_
    refine at_Vv C (As := [.int (-1 : Int32), .int (0 : Int32)]) (st := []) (b := 4) (ci := 1) (cz_X1_letFall σ (-1 : Int32) (0 : Int32) hI (show iv 0 0 (ac_gi σ 0) from gf0) (show iv 0 0 (ac_gi σ 4) from gf4)) mb_X1_letFall ml_X6_133 rfl rfl rfl (by decide) rfl (Nat.le_of_ble_eq_true rfl) dX6_run_18 ?_
    rintro _ ⟨rfl, hJ54⟩
    · show AT E 21 [(0, .ref (e_q E 0)), (1, .int x1)] [] (ac_si (ac_si (ac_si σ 7 (0 : Int32)) 8 (0 : Int32)) 9 (0 : Int32))
      refine at_aload_n C 0 dX6_run_21 rfl ?_
      refine gf_X6_37 C dX6_run_22 ?_
      refine at_iload_n C 1 dX6_run_25 rfl ?_
      refine at_Vi C (As := [.int x1]) (st := []) (b := 4) (ci := 1) (cz_X1_ending (ac_si (ac_si (ac_si σ 7 (0 : Int32)) 8 (0 : Int32)) 9 (0 : Int32)) x1 hJ54 (show iv 0 0 (ac_gi σ 0) from gf0) (show iv 0 0 (0 : Int32) from (iv_c (c := 0) (x := (0 : Int32)) (by decide))) (show iv 0 0 (0 : Int32) from (iv_c (c := 0) (x := (0 : Int32)) (by decide))) (show iv 0 0 (0 : Int32) from (iv_c (c := 0) (x := (0 : Int32)) (by decide)))) mb_X1_ending ml_X6_137 rfl rfl rfl (by decide) rfl (Nat.le_of_ble_eq_true rfl) dX6_run_26 ?_
      rintro _ _ ⟨rfl, rfl, hJ55⟩
      · show AT E 29 [(0, .ref (e_q E 0)), (1, .int x1)] [.int (0 : Int32)] (ac_si (ac_si (ac_si σ 7 (0 : Int32)) 8 (0 : Int32)) 9 (0 : Int32))
        exact hR _ _ _ _ dX6_run_29 (Or.inr ⟨(by have t1 := iv_ne c53; have k0 : (0 : Int32).toInt = 0 := (by decide); have k1 : (1 : Int32).toInt = 1 := (by decide); have := c50; have : (0 : Int32).toInt = 0 := (by decide); have : (3 : Int32).toInt = 3 := (by decide); omega), rfl, rfl, hJ54⟩)
  · refine at_if_ne C 12 dX6_run_6 (by decide) (fun c56 => absurd (iv_xne (iv_c (c := 0) (x := (0 : Int32)) (by decide)) (iv_c (c := 0) (x := (0 : Int32)) (by decide))) c56) (fun c56 => ?_)
    refine at_bipush C (-2 : Int32) dX6_run_9 (by decide) ?_
    exact hR _ _ _ _ dX6_run_11 (Or.inl ⟨(by have t1 := congrArg Int32.toInt c56; have k0 : (0 : Int32).toInt = 0 := (by decide); have := c50; have : (0 : Int32).toInt = 0 := (by decide); have : (3 : Int32).toInt = 3 := (by decide); omega), rfl, rfl, hI⟩)
set_option maxHeartbeats 4000000 in
set_option maxRecDepth 100000 in
theorem cz_X6_paid (σ : SS) (x1 : Int32) (hI : Inv σ) (gf0 : iv 0 0 (ac_gi σ 0)) : ConI yX6_paid cX6_paid 2 (some .int) 17 (some 0) [.int x1] σ (fun r σ' => (r = (-2 : Int32) ∧ σ = σ' ∧ Inv σ')) := by
  refine conI_of (by decide) (fun q => Nat.le_of_ble_eq_true rfl) (fun E C en hR => ?_)
  refine at_aload_n C 0 dX6_paid_0 rfl ?_
  refine gf_X6_37 C dX6_paid_1 ?_
  refine at_iload_n C 1 dX6_paid_4 rfl ?_
  refine at_Vi C (As := [.int x1]) (st := []) (b := 4) (ci := 1) (ct_X1_isOld σ x1 hI) mb_X1_isOld ml_X6_140 rfl rfl rfl (by decide) rfl (Nat.le_of_ble_eq_true rfl) dX6_paid_5 ?_
  rintro _ _ ⟨rfl, ⟨rfl, c29⟩ | ⟨rfl, c29⟩⟩
  · have f31 : iv 0 (-1) x1 := (iv_of3 c29.1 gf0)
    exact iv_no f31 (by decide)
  · refine at_if_ne C 14 dX6_paid_8 (by decide) (fun c32 => absurd (iv_xne (iv_c (c := 0) (x := (0 : Int32)) (by decide)) (iv_c (c := 0) (x := (0 : Int32)) (by decide))) c32) (fun c32 => ?_)
    refine at_bipush C (-2 : Int32) dX6_paid_11 (by decide) ?_
    exact hR _ _ _ _ dX6_paid_13 ⟨rfl, rfl, hI⟩
set_option maxHeartbeats 4000000 in
set_option maxRecDepth 100000 in
theorem cz_X6_round (σ : SS) (x1 : Int32) (hI : Inv σ) (gf0 : iv 0 0 (ac_gi σ 0)) : ConI yX6_round cX6_round 2 (some .int) 17 (some 0) [.int x1] σ (fun r σ' => (r = (-2 : Int32) ∧ σ = σ' ∧ Inv σ')) := by
  refine conI_of (by decide) (fun q => Nat.le_of_ble_eq_true rfl) (fun E C en hR => ?_)
  refine at_aload_n C 0 dX6_round_0 rfl ?_
  refine gf_X6_37 C dX6_round_1 ?_
  refine at_iload_n C 1 dX6_round_4 rfl ?_
  refine at_Vi C (As := [.int x1]) (st := []) (b := 4) (ci := 1) (ct_X1_isOld σ x1 hI) mb_X1_isOld ml_X6_140 rfl rfl rfl (by decide) rfl (Nat.le_of_ble_eq_true rfl) dX6_round_5 ?_
  rintro _ _ ⟨rfl, ⟨rfl, c29⟩ | ⟨rfl, c29⟩⟩
  · have f31 : iv 0 (-1) x1 := (iv_of3 c29.1 gf0)
    exact iv_no f31 (by decide)
  · refine at_if_ne C 14 dX6_round_8 (by decide) (fun c32 => absurd (iv_xne (iv_c (c := 0) (x := (0 : Int32)) (by decide)) (iv_c (c := 0) (x := (0 : Int32)) (by decide))) c32) (fun c32 => ?_)
    refine at_bipush C (-2 : Int32) dX6_round_11 (by decide) ?_
    exact hR _ _ _ _ dX6_round_13 ⟨rfl, rfl, hI⟩
set_option maxHeartbeats 4000000 in
set_option maxRecDepth 100000 in
theorem cz_X6_gain (σ : SS) (x1 : Int32) (x2 : Int32) (hI : Inv σ) (gf0 : iv 0 0 (ac_gi σ 0)) : ConI yX6_gain cX6_gain 3 (some .int) 18 (some 0) [.int x1, .int x2] σ (fun r σ' => (r = (-1000000 : Int32) ∧ σ = σ' ∧ Inv σ')) := by
  refine conI_of (by decide) (fun q => Nat.le_of_ble_eq_true rfl) (fun E C en hR => ?_)
  refine at_aload_n C 0 dX6_gain_0 rfl ?_
  refine gf_X6_37 C dX6_gain_1 ?_
  refine at_iload_n C 1 dX6_gain_4 rfl ?_
  refine at_Vi C (As := [.int x1]) (st := []) (b := 4) (ci := 1) (ct_X1_isOld σ x1 hI) mb_X1_isOld ml_X6_140 rfl rfl rfl (by decide) rfl (Nat.le_of_ble_eq_true rfl) dX6_gain_5 ?_
  rintro _ _ ⟨rfl, ⟨rfl, c29⟩ | ⟨rfl, c29⟩⟩
  · have f31 : iv 0 (-1) x1 := (iv_of3 c29.1 gf0)
    exact iv_no f31 (by decide)
  · refine at_if_eq C 22 dX6_gain_8 (by decide) (fun c32 => ?_) (fun c32 => absurd (iv_xne (iv_c (c := 0) (x := (0 : Int32)) (by decide)) (iv_c (c := 0) (x := (0 : Int32)) (by decide))) c32)
    refine at_ldc C (-1000000 : Int32) dX6_gain_22 kc_X6_149 ?_
    exact hR _ _ _ _ dX6_gain_24 ⟨rfl, rfl, hI⟩
set_option maxHeartbeats 4000000 in
set_option maxRecDepth 100000 in
theorem cz_X6_most (σ : SS) (x1 : Int32) (x2 : Int32) (x3 : Int32) (x4 : Int32) (hI : Inv σ) (gf0 : iv 0 0 (ac_gi σ 0)) : ConI yX6_most cX6_most 10 (some .int) 18 (some 0) [.int x1, .int x2, .int x3, .int x4] σ (fun r σ' => (r = (-1000000 : Int32) ∧ σ = σ' ∧ Inv σ')) := by
  refine conI_of (by decide) (fun q => Nat.le_of_ble_eq_true rfl) (fun E C en hR => ?_)
  have hn5 : 5 < e_n E := by rw [en]; decide
  have hn6 : 6 < e_n E := by rw [en]; decide
  have hn7 : 7 < e_n E := by rw [en]; decide
  have hn8 : 8 < e_n E := by rw [en]; decide
  have hn9 : 9 < e_n E := by rw [en]; decide
  refine at_aload_n C 0 dX6_most_0 rfl ?_
  refine gf_X6_37 C dX6_most_1 ?_
  refine at_iload_n C 1 dX6_most_4 rfl ?_
  refine at_Vi C (As := [.int x1]) (st := []) (b := 4) (ci := 1) (ct_X1_isOld σ x1 hI) mb_X1_isOld ml_X6_140 rfl rfl rfl (by decide) rfl (Nat.le_of_ble_eq_true rfl) dX6_most_5 ?_
  rintro _ _ ⟨rfl, ⟨rfl, c29⟩ | ⟨rfl, c29⟩⟩
  · have f31 : iv 0 (-1) x1 := (iv_of3 c29.1 gf0)
    exact iv_no f31 (by decide)
  · refine at_if_eq C 43 dX6_most_8 (by decide) (fun c32 => ?_) (fun c32 => absurd (iv_xne (iv_c (c := 0) (x := (0 : Int32)) (by decide)) (iv_c (c := 0) (x := (0 : Int32)) (by decide))) c32)
    refine at_ldc C (-1000000 : Int32) dX6_most_43 kc_X6_149 ?_
    exact hR _ _ _ _ dX6_most_45 ⟨rfl, rfl, hI⟩
set_option maxHeartbeats 4000000 in
set_option maxRecDepth 100000 in
theorem cz_X6_tower (σ : SS) (x1 : Int32) (x2 : Int32) (hI : Inv σ) (gf0 : iv 0 0 (ac_gi σ 0)) : ConI yX6_tower cX6_tower 3 (some .int) 2 (some 0) [.int x1, .int x2] σ (fun r σ' => (r = (-2 : Int32) ∧ σ = σ' ∧ Inv σ')) := by
  refine conI_of (by decide) (fun q => Nat.le_of_ble_eq_true rfl) (fun E C en hR => ?_)
  refine at_aload_n C 0 dX6_tower_0 rfl ?_
  refine gf_X6_12 C dX6_tower_1 ?_
  refine at_iload_n C 1 dX6_tower_4 rfl ?_
  refine at_Vi C (As := [.int x1]) (st := []) (b := 1) (ci := 0) (ct_X0_isMast σ x1) mb_X0_isMast ml_X6_73 rfl rfl rfl (by decide) rfl (Nat.le_of_ble_eq_true rfl) dX6_tower_5 ?_
  rintro _ _ ⟨rfl, ⟨rfl, c29⟩ | ⟨rfl, c29⟩⟩
  · have f31 : iv 0 (-1) x1 := (iv_of3 c29 gf0)
    exact iv_no f31 (by decide)
  · refine at_if_eq C 28 dX6_tower_8 (by decide) (fun c32 => ?_) (fun c32 => absurd (iv_xne (iv_c (c := 0) (x := (0 : Int32)) (by decide)) (iv_c (c := 0) (x := (0 : Int32)) (by decide))) c32)
    refine at_bipush C (-2 : Int32) dX6_tower_28 (by decide) ?_
    exact hR _ _ _ _ dX6_tower_30 ⟨rfl, rfl, hI⟩
set_option maxHeartbeats 4000000 in
set_option maxRecDepth 100000 in
theorem cz_X6_free (σ : SS) (x1 : Int32) (hI : Inv σ) (gf0 : iv 0 0 (ac_gi σ 0)) : ConI yX6_free cX6_free 2 (some .int) 2 (some 0) [.int x1] σ (fun r σ' => (r = (-2 : Int32) ∧ σ = σ' ∧ Inv σ')) := by
  refine conI_of (by decide) (fun q => Nat.le_of_ble_eq_true rfl) (fun E C en hR => ?_)
  refine at_aload_n C 0 dX6_free_0 rfl ?_
  refine gf_X6_12 C dX6_free_1 ?_
  refine at_iload_n C 1 dX6_free_4 rfl ?_
  refine at_Vi C (As := [.int x1]) (st := []) (b := 1) (ci := 0) (ct_X0_isMast σ x1) mb_X0_isMast ml_X6_73 rfl rfl rfl (by decide) rfl (Nat.le_of_ble_eq_true rfl) dX6_free_5 ?_
  rintro _ _ ⟨rfl, ⟨rfl, c29⟩ | ⟨rfl, c29⟩⟩
  · have f31 : iv 0 (-1) x1 := (iv_of3 c29 gf0)
    exact iv_no f31 (by decide)
  · refine at_if_eq C 22 dX6_free_8 (by decide) (fun c32 => ?_) (fun c32 => absurd (iv_xne (iv_c (c := 0) (x := (0 : Int32)) (by decide)) (iv_c (c := 0) (x := (0 : Int32)) (by decide))) c32)
    refine at_bipush C (-2 : Int32) dX6_free_22 (by decide) ?_
    exact hR _ _ _ _ dX6_free_24 ⟨rfl, rfl, hI⟩
set_option maxHeartbeats 4000000 in
set_option maxRecDepth 100000 in
theorem cz_X6_mix (σ : SS) (x1 : Int64) (x2 : Int32) (hI : Inv σ) : ConL yX6_mix cX6_mix 3 (some .long) 0 none [.long x1, .int x2] σ (fun r σ' => (r = (((31 : Int64) * x1) + (x2).toInt64) ∧ σ = σ' ∧ Inv σ')) := by
  refine conL_of (by decide) (fun q => Nat.le_of_ble_eq_true rfl) (fun E C en hR => ?_)
  refine at_ldc2 C (31 : Int64) dX6_mix_0 kc_X6_248 ?_
  refine at_lload_n C 0 dX6_mix_3 rfl ?_
  refine at_lmul C dX6_mix_4 ?_
  refine at_iload_n C 1 dX6_mix_5 rfl ?_
  refine at_i2l C dX6_mix_6 ?_
  refine at_ladd C dX6_mix_7 ?_
  exact hR _ _ _ _ dX6_mix_8 ⟨rfl, rfl, hI⟩
set_option maxHeartbeats 4000000 in
set_option maxRecDepth 100000 in
theorem cz_X6_count (σ : SS) (x1 : Int32) (hI : Inv σ) (gf0 : iv 0 0 (ac_gi σ 0)) (gf4 : iv 0 0 (ac_gi σ 4)) (gf12 : iv 0 0 (ac_gi σ 12)) (gf13 : iv 0 0 (ac_gi σ 13)) : ConI yX6_count cX6_count 2 (some .int) 1 (some 0) [.int x1] σ (fun r σ' => ((¬ ((0 ≤ (x1).toInt ∧ (x1).toInt ≤ 3))) ∧ r = (-2 : Int32) ∧ σ = σ' ∧ Inv σ') ∨ (((0 ≤ (x1).toInt ∧ (x1).toInt ≤ 3)) ∧ r = (0 : Int32) ∧ σ = σ' ∧ Inv σ')) := by
  refine conI_of (by decide) (fun q => Nat.le_of_ble_eq_true rfl) (fun E C en hR => ?_)
  refine at_iload_n C 1 dX6_count_0 rfl ?_
  by_cases c430 : x1 = (0 : Int32)
  · refine at_tabIn C 32 dX6_count_1 (by rw [c430]; decide) (by rw [c430]; decide) (by rw [c430]; rfl) (by decide) ?_
    have f44 : iv 0 0 x1 := (iv_eql (iv_c (c := 0) (x := (0 : Int32)) (by decide)) c430)
    refine at_aload_n C 0 dX6_count_32 rfl ?_
    refine gf_X6_12 C dX6_count_33 ?_
    refine gf_X6_59 C dX6_count_36 ?_
    exact hR _ _ _ _ dX6_count_39 (Or.inr ⟨(by have t1 := congrArg Int32.toInt c430; have k0 : (0 : Int32).toInt = 0 := (by decide); omega), (iv_xne (show iv 0 0 (ac_gi σ 0) from gf0) (show iv 0 0 (0 : Int32) from (iv_c (c := 0) (x := (0 : Int32)) (by decide)))), rfl, hI⟩)
  by_cases c431 : x1 = (1 : Int32)
  · refine at_tabIn C 40 dX6_count_1 (by rw [c431]; decide) (by rw [c431]; decide) (by rw [c431]; rfl) (by decide) ?_
    have f45 : iv 1 1 x1 := (iv_eql (iv_c (c := 1) (x := (1 : Int32)) (by decide)) c431)
    refine at_aload_n C 0 dX6_count_40 rfl ?_
    refine gf_X6_37 C dX6_count_41 ?_
    refine gf_X6_121 C dX6_count_44 ?_
    refine at_Si C (As := [.int (ac_gi σ 4)]) (st := []) (cz_J6_bitCount_0f7a4 σ (ac_gi σ 4) hI (show iv 0 0 (ac_gi σ 4) from gf4)) mb_J6_bitCount_0f7a4 ml_X6_219 rfl (by decide) rfl (Nat.le_of_ble_eq_true rfl) dX6_count_47 ?_
    rintro _ _ ⟨rfl, rfl, hJ46⟩
    · show AT E 50 [(0, .ref (e_q E 0)), (1, .int x1)] [.int (0 : Int32)] σ
      exact hR _ _ _ _ dX6_count_50 (Or.inr ⟨(by have t1 := iv_ne c430; have t2 := congrArg Int32.toInt c431; have k0 : (0 : Int32).toInt = 0 := (by decide); have k1 : (1 : Int32).toInt = 1 := (by decide); omega), rfl, rfl, hI⟩)
  by_cases c432 : x1 = (2 : Int32)
  · refine at_tabIn C 51 dX6_count_1 (by rw [c432]; decide) (by rw [c432]; decide) (by rw [c432]; rfl) (by decide) ?_
    have f47 : iv 2 2 x1 := (iv_eql (iv_c (c := 2) (x := (2 : Int32)) (by decide)) c432)
    refine at_aload_n C 0 dX6_count_51 rfl ?_
    refine gf_X6_44 C dX6_count_52 ?_
    refine gf_X6_156 C dX6_count_55 ?_
    exact hR _ _ _ _ dX6_count_58 (Or.inr ⟨(by have t1 := iv_ne c430; have t2 := iv_ne c431; have t3 := congrArg Int32.toInt c432; have k0 : (0 : Int32).toInt = 0 := (by decide); have k1 : (1 : Int32).toInt = 1 := (by decide); have k2 : (2 : Int32).toInt = 2 := (by decide); omega), (iv_xne (show iv 0 0 (ac_gi σ 12) from gf12) (show iv 0 0 (0 : Int32) from (iv_c (c := 0) (x := (0 : Int32)) (by decide)))), rfl, hI⟩)
  by_cases c433 : x1 = (3 : Int32)
  · refine at_tabIn C 59 dX6_count_1 (by rw [c433]; decide) (by rw [c433]; decide) (by rw [c433]; rfl) (by decide) ?_
    have f48 : iv 3 3 x1 := (iv_eql (iv_c (c := 3) (x := (3 : Int32)) (by decide)) c433)
    refine at_aload_n C 0 dX6_count_59 rfl ?_
    refine gf_X6_44 C dX6_count_60 ?_
    refine gf_X6_166 C dX6_count_63 ?_
    exact hR _ _ _ _ dX6_count_66 (Or.inr ⟨(by have t1 := iv_ne c430; have t2 := iv_ne c431; have t3 := iv_ne c432; have t4 := congrArg Int32.toInt c433; have k0 : (0 : Int32).toInt = 0 := (by decide); have k1 : (1 : Int32).toInt = 1 := (by decide); have k2 : (2 : Int32).toInt = 2 := (by decide); have k3 : (3 : Int32).toInt = 3 := (by decide); omega), (iv_xne (show iv 0 0 (ac_gi σ 13) from gf13) (show iv 0 0 (0 : Int32) from (iv_c (c := 0) (x := (0 : Int32)) (by decide)))), rfl, hI⟩)
  refine at_tabOut C 67 dX6_count_1 (tab_out (lo := 0) (hi := 3) (fun z1 z2 => by have := iv_ne c430; have := iv_ne c431; have := iv_ne c432; have := iv_ne c433; simp at *; omega)) (by decide) ?_
  refine at_bipush C (-2 : Int32) dX6_count_67 (by decide) ?_
  exact hR _ _ _ _ dX6_count_69 (Or.inl ⟨(by have t1 := iv_ne c430; have t2 := iv_ne c431; have t3 := iv_ne c432; have t4 := iv_ne c433; have k0 : (0 : Int32).toInt = 0 := (by decide); have k1 : (1 : Int32).toInt = 1 := (by decide); have k2 : (2 : Int32).toInt = 2 := (by decide); have k3 : (3 : Int32).toInt = 3 := (by decide); omega), rfl, rfl, hI⟩)
set_option maxHeartbeats 4000000 in
set_option maxRecDepth 100000 in
theorem cz_X6_digest (σ : SS) (hI : Inv σ) (gf0 : iv 0 0 (ac_gi σ 0)) (gf4 : iv 0 0 (ac_gi σ 4)) (gf12 : iv 0 0 (ac_gi σ 12)) (gf13 : iv 0 0 (ac_gi σ 13)) : ConL yX6_digest cX6_digest 4 (some .long) 17 (some 0) [] σ (fun r σ' => (r = (((31 : Int64) * (((31 : Int64) * (((31 : Int64) * (((31 : Int64) * (((31 : Int64) * (((31 : Int64) * (((31 : Int64) * (((31 : Int64) * (((31 : Int64) * (((31 : Int64) * (((31 : Int64) * (((31 : Int64) * (((31 : Int64) * (((31 : Int64) * (((31 : Int64) * (((31 : Int64) * (((31 : Int64) * (((31 : Int64) * (((31 : Int64) * (((31 : Int64) * (((31 : Int64) * (((31 : Int64) * (((31 : Int64) * (((31 : Int64) * (((31 : Int64) * (((31 : Int64) * (((31 : Int64) * (((31 : Int64) * (401 : Int64)) + ((0 : Int32)).toInt64)) + ((0 : Int32)).toInt64)) + ((0 : Int32)).toInt64)) + ((0 : Int32)).toInt64)) + ((ac_gi σ 1)).toInt64)) + ((ac_gi σ 2)).toInt64)) + ((ac_gi σ 5)).toInt64)) + ((ac_gi σ 6)).toInt64)) + ((ac_ga σ 7 ((0 : Int32)).toNatClampNeg)).toInt64)) + ((ac_ga σ 7 (((0 : Int32) + (1 : Int32))).toNatClampNeg)).toInt64)) + ((ac_ga σ 7 ((((0 : Int32) + (1 : Int32)) + (1 : Int32))).toNatClampNeg)).toInt64)) + ((ac_ga σ 7 (((((0 : Int32) + (1 : Int32)) + (1 : Int32)) + (1 : Int32))).toNatClampNeg)).toInt64)) + ((ac_ga σ 7 ((((((0 : Int32) + (1 : Int32)) + (1 : Int32)) + (1 : Int32)) + (1 : Int32))).toNatClampNeg)).toInt64)) + ((ac_ga σ 7 (((((((0 : Int32) + (1 : Int32)) + (1 : Int32)) + (1 : Int32)) + (1 : Int32)) + (1 : Int32))).toNatClampNeg)).toInt64)) + ((ac_ga σ 7 ((((((((0 : Int32) + (1 : Int32)) + (1 : Int32)) + (1 : Int32)) + (1 : Int32)) + (1 : Int32)) + (1 : Int32))).toNatClampNeg)).toInt64)) + ((ac_ga σ 7 (((((((((0 : Int32) + (1 : Int32)) + (1 : Int32)) + (1 : Int32)) + (1 : Int32)) + (1 : Int32)) + (1 : Int32)) + (1 : Int32))).toNatClampNeg)).toInt64)) + ((ac_ga σ 7 ((((((((((0 : Int32) + (1 : Int32)) + (1 : Int32)) + (1 : Int32)) + (1 : Int32)) + (1 : Int32)) + (1 : Int32)) + (1 : Int32)) + (1 : Int32))).toNatClampNeg)).toInt64)) + ((ac_ga σ 7 (((((((((((0 : Int32) + (1 : Int32)) + (1 : Int32)) + (1 : Int32)) + (1 : Int32)) + (1 : Int32)) + (1 : Int32)) + (1 : Int32)) + (1 : Int32)) + (1 : Int32))).toNatClampNeg)).toInt64)) + ((ac_ga σ 7 ((((((((((((0 : Int32) + (1 : Int32)) + (1 : Int32)) + (1 : Int32)) + (1 : Int32)) + (1 : Int32)) + (1 : Int32)) + (1 : Int32)) + (1 : Int32)) + (1 : Int32)) + (1 : Int32))).toNatClampNeg)).toInt64)) + ((ac_ga σ 7 (((((((((((((0 : Int32) + (1 : Int32)) + (1 : Int32)) + (1 : Int32)) + (1 : Int32)) + (1 : Int32)) + (1 : Int32)) + (1 : Int32)) + (1 : Int32)) + (1 : Int32)) + (1 : Int32)) + (1 : Int32))).toNatClampNeg)).toInt64)) + ((ac_ga σ 7 ((((((((((((((0 : Int32) + (1 : Int32)) + (1 : Int32)) + (1 : Int32)) + (1 : Int32)) + (1 : Int32)) + (1 : Int32)) + (1 : Int32)) + (1 : Int32)) + (1 : Int32)) + (1 : Int32)) + (1 : Int32)) + (1 : Int32))).toNatClampNeg)).toInt64)) + ((ac_ga σ 7 (((((((((((((((0 : Int32) + (1 : Int32)) + (1 : Int32)) + (1 : Int32)) + (1 : Int32)) + (1 : Int32)) + (1 : Int32)) + (1 : Int32)) + (1 : Int32)) + (1 : Int32)) + (1 : Int32)) + (1 : Int32)) + (1 : Int32)) + (1 : Int32))).toNatClampNeg)).toInt64)) + ((ac_ga σ 7 ((((((((((((((((0 : Int32) + (1 : Int32)) + (1 : Int32)) + (1 : Int32)) + (1 : Int32)) + (1 : Int32)) + (1 : Int32)) + (1 : Int32)) + (1 : Int32)) + (1 : Int32)) + (1 : Int32)) + (1 : Int32)) + (1 : Int32)) + (1 : Int32)) + (1 : Int32))).toNatClampNeg)).toInt64)) + ((ac_ga σ 7 (((((((((((((((((0 : Int32) + (1 : Int32)) + (1 : Int32)) + (1 : Int32)) + (1 : Int32)) + (1 : Int32)) + (1 : Int32)) + (1 : Int32)) + (1 : Int32)) + (1 : Int32)) + (1 : Int32)) + (1 : Int32)) + (1 : Int32)) + (1 : Int32)) + (1 : Int32)) + (1 : Int32))).toNatClampNeg)).toInt64)) + ((0 : Int32)).toInt64)) + ((0 : Int32)).toInt64)) + ((0 : Int32)).toInt64)) + ((0 : Int32)).toInt64) ∧ (ac_si (ac_si (ac_si σ 7 (0 : Int32)) 8 (0 : Int32)) 9 (0 : Int32)) = σ' ∧ Inv σ')) := by
  refine conL_of (by decide) (fun q => Nat.le_of_ble_eq_true rfl) (fun E C en hR => ?_)
  have hn2 : 2 < e_n E := by rw [en]; decide
  have hn3 : 3 < e_n E := by rw [en]; decide
  refine at_ldc2 C (401 : Int64) dX6_digest_0 kc_X6_224 ?_
  refine at_lstore_n C (lv' := [(1, .long (401 : Int64)), (0, .ref (e_q E 0))]) dX6_digest_3 hn2 rfl ?_
  refine at_iconst C (0 : Int32) dX6_digest_4 (by decide) ?_
  refine at_istore_n C (lv' := [(3, .int (0 : Int32)), (1, .long (401 : Int64)), (0, .ref (e_q E 0))]) dX6_digest_5 hn3 rfl ?_
  refine at_iload_n C 0 dX6_digest_6 rfl ?_
  refine at_iconst C (3 : Int32) dX6_digest_7 (by decide) ?_
  refine at_icmp_gt C 27 dX6_digest_8 (by decide) (fun c946 => absurd c946 (iv_xlt (iv_c (c := 3) (x := (3 : Int32)) (by decide)) (iv_c (c := 0) (x := (0 : Int32)) (by decide)) (by decide))) (fun c946 => ?_)
  refine at_lload_n C 1 dX6_digest_11 rfl ?_
  refine at_aload_n C 2 dX6_digest_12 rfl ?_
  refine at_iload_n C 0 dX6_digest_13 rfl ?_
  refine at_Vi C (As := [.int (0 : Int32)]) (st := [.long (401 : Int64)]) (b := 0) (ci := 6) (cz_X6_count σ (0 : Int32) hI (show iv 0 0 (ac_gi σ 0) from gf0) (show iv 0 0 (ac_gi σ 4) from gf4) (show iv 0 0 (ac_gi σ 12) from gf12) (show iv 0 0 (ac_gi σ 13) from gf13)) mb_X6_count ml_X6_226 rfl rfl rfl (by decide) rfl (Nat.le_of_ble_eq_true rfl) dX6_digest_14 ?_
  rintro _ _ (⟨c947, rfl, rfl, hJ948⟩ | ⟨c949, rfl, rfl, hJ950⟩)
  · exact absurd (iv_wk (iv_c (c := 0) (x := (0 : Int32)) (by decide)) (by decide) (by decide) : iv 0 3 (0 : Int32)) c947
  · show AT E 17 [(3, .int (0 : Int32)), (1, .long (401 : Int64)), (0, .ref (e_q E 0))] [.int (0 : Int32), .long (401 : Int64)] σ
    refine at_Sl C (As := [.long (401 : Int64), .int (0 : Int32)]) (st := []) (cz_X6_mix σ (401 : Int64) (0 : Int32) hI) mb_X6_mix ml_X6_229 rfl (by decide) rfl (Nat.le_of_ble_eq_true rfl) dX6_digest_17 ?_
    rintro lr953 _ ⟨hr952, rfl, hJ951⟩
    · show AT E 20 [(3, .int (0 : Int32)), (1, .long (401 : Int64)), (0, .ref (e_q E 0))] [.long lr953] σ
      refine at_lstore_n C (lv' := [(1, .long lr953), (3, .int (0 : Int32)), (0, .ref (e_q E 0))]) dX6_digest_20 hn2 rfl ?_
      refine at_iinc C (v := ((0 : Int32) + (1 : Int32))) (lv' := [(3, .int ((0 : Int32) + (1 : Int32))), (1, .long lr953), (0, .ref (e_q E 0))]) 1 dX6_digest_21 rfl rfl hn3 rfl ?_
      refine at_goto C 6 dX6_digest_24 (by decide) ?_
      refine at_iload_n C 0 dX6_digest_6 rfl ?_
      refine at_iconst C (3 : Int32) dX6_digest_7 (by decide) ?_
      refine at_icmp_gt C 27 dX6_digest_8 (by decide) (fun c954 => absurd c954 (iv_xlt (iv_c (c := 3) (x := (3 : Int32)) (by decide)) (iv_add (iv_c (c := 0) (x := (0 : Int32)) (by decide)) (iv_c (c := 1) (x := (1 : Int32)) (by decide)) (by decide) (by decide)) (by decide))) (fun c954 => ?_)
      refine at_lload_n C 1 dX6_digest_11 rfl ?_
      refine at_aload_n C 2 dX6_digest_12 rfl ?_
      refine at_iload_n C 0 dX6_digest_13 rfl ?_
      refine at_Vi C (As := [.int ((0 : Int32) + (1 : Int32))]) (st := [.long lr953]) (b := 0) (ci := 6) (cz_X6_count σ ((0 : Int32) + (1 : Int32)) hI (show iv 0 0 (ac_gi σ 0) from gf0) (show iv 0 0 (ac_gi σ 4) from gf4) (show iv 0 0 (ac_gi σ 12) from gf12) (show iv 0 0 (ac_gi σ 13) from gf13)) mb_X6_count ml_X6_226 rfl rfl rfl (by decide) rfl (Nat.le_of_ble_eq_true rfl) dX6_digest_14 ?_
      rintro _ _ (⟨c955, rfl, rfl, hJ956⟩ | ⟨c957, rfl, rfl, hJ958⟩)
      · exact absurd (iv_wk (iv_add (iv_c (c := 0) (x := (0 : Int32)) (by decide)) (iv_c (c := 1) (x := (1 : Int32)) (by decide)) (by decide) (by decide)) (by decide) (by decide) : iv 0 3 ((0 : Int32) + (1 : Int32))) c955
      · show AT E 17 [(3, .int ((0 : Int32) + (1 : Int32))), (1, .long lr953), (0, .ref (e_q E 0))] [.int (0 : Int32), .long lr953] σ
        refine at_Sl C (As := [.long lr953, .int (0 : Int32)]) (st := []) (cz_X6_mix σ lr953 (0 : Int32) hI) mb_X6_mix ml_X6_229 rfl (by decide) rfl (Nat.le_of_ble_eq_true rfl) dX6_digest_17 ?_
        rintro lr961 _ ⟨hr960, rfl, hJ959⟩
        · show AT E 20 [(3, .int ((0 : Int32) + (1 : Int32))), (1, .long lr953), (0, .ref (e_q E 0))] [.long lr961] σ
          refine at_lstore_n C (lv' := [(1, .long lr961), (3, .int ((0 : Int32) + (1 : Int32))), (0, .ref (e_q E 0))]) dX6_digest_20 hn2 rfl ?_
          refine at_iinc C (v := (((0 : Int32) + (1 : Int32)) + (1 : Int32))) (lv' := [(3, .int (((0 : Int32) + (1 : Int32)) + (1 : Int32))), (1, .long lr961), (0, .ref (e_q E 0))]) 1 dX6_digest_21 rfl rfl hn3 rfl ?_
          refine at_goto C 6 dX6_digest_24 (by decide) ?_
          refine at_iload_n C 0 dX6_digest_6 rfl ?_
          refine at_iconst C (3 : Int32) dX6_digest_7 (by decide) ?_
          refine at_icmp_gt C 27 dX6_digest_8 (by decide) (fun c962 => absurd c962 (iv_xlt (iv_c (c := 3) (x := (3 : Int32)) (by decide)) (iv_add (iv_add (iv_c (c := 0) (x := (0 : Int32)) (by decide)) (iv_c (c := 1) (x := (1 : Int32)) (by decide)) (by decide) (by decide)) (iv_c (c := 1) (x := (1 : Int32)) (by decide)) (by decide) (by decide)) (by decide))) (fun c962 => ?_)
          refine at_lload_n C 1 dX6_digest_11 rfl ?_
          refine at_aload_n C 2 dX6_digest_12 rfl ?_
          refine at_iload_n C 0 dX6_digest_13 rfl ?_
          refine at_Vi C (As := [.int (((0 : Int32) + (1 : Int32)) + (1 : Int32))]) (st := [.long lr961]) (b := 0) (ci := 6) (cz_X6_count σ (((0 : Int32) + (1 : Int32)) + (1 : Int32)) hI (show iv 0 0 (ac_gi σ 0) from gf0) (show iv 0 0 (ac_gi σ 4) from gf4) (show iv 0 0 (ac_gi σ 12) from gf12) (show iv 0 0 (ac_gi σ 13) from gf13)) mb_X6_count ml_X6_226 rfl rfl rfl (by decide) rfl (Nat.le_of_ble_eq_true rfl) dX6_digest_14 ?_
          rintro _ _ (⟨c963, rfl, rfl, hJ964⟩ | ⟨c965, rfl, rfl, hJ966⟩)
          · exact absurd (iv_wk (iv_add (iv_add (iv_c (c := 0) (x := (0 : Int32)) (by decide)) (iv_c (c := 1) (x := (1 : Int32)) (by decide)) (by decide) (by decide)) (iv_c (c := 1) (x := (1 : Int32)) (by decide)) (by decide) (by decide)) (by decide) (by decide) : iv 0 3 (((0 : Int32) + (1 : Int32)) + (1 : Int32))) c963
          · show AT E 17 [(3, .int (((0 : Int32) + (1 : Int32)) + (1 : Int32))), (1, .long lr961), (0, .ref (e_q E 0))] [.int (0 : Int32), .long lr961] σ
            refine at_Sl C (As := [.long lr961, .int (0 : Int32)]) (st := []) (cz_X6_mix σ lr961 (0 : Int32) hI) mb_X6_mix ml_X6_229 rfl (by decide) rfl (Nat.le_of_ble_eq_true rfl) dX6_digest_17 ?_
            rintro lr969 _ ⟨hr968, rfl, hJ967⟩
            · show AT E 20 [(3, .int (((0 : Int32) + (1 : Int32)) + (1 : Int32))), (1, .long lr961), (0, .ref (e_q E 0))] [.long lr969] σ
              refine at_lstore_n C (lv' := [(1, .long lr969), (3, .int (((0 : Int32) + (1 : Int32)) + (1 : Int32))), (0, .ref (e_q E 0))]) dX6_digest_20 hn2 rfl ?_
              refine at_iinc C (v := ((((0 : Int32) + (1 : Int32)) + (1 : Int32)) + (1 : Int32))) (lv' := [(3, .int ((((0 : Int32) + (1 : Int32)) + (1 : Int32)) + (1 : Int32))), (1, .long lr969), (0, .ref (e_q E 0))]) 1 dX6_digest_21 rfl rfl hn3 rfl ?_
              refine at_goto C 6 dX6_digest_24 (by decide) ?_
              refine at_iload_n C 0 dX6_digest_6 rfl ?_
              refine at_iconst C (3 : Int32) dX6_digest_7 (by decide) ?_
              refine at_icmp_gt C 27 dX6_digest_8 (by decide) (fun c970 => absurd c970 (iv_xlt (iv_c (c := 3) (x := (3 : Int32)) (by decide)) (iv_add (iv_add (iv_add (iv_c (c := 0) (x := (0 : Int32)) (by decide)) (iv_c (c := 1) (x := (1 : Int32)) (by decide)) (by decide) (by decide)) (iv_c (c := 1) (x := (1 : Int32)) (by decide)) (by decide) (by decide)) (iv_c (c := 1) (x := (1 : Int32)) (by decide)) (by decide) (by decide)) (by decide))) (fun c970 => ?_)
              refine at_lload_n C 1 dX6_digest_11 rfl ?_
              refine at_aload_n C 2 dX6_digest_12 rfl ?_
              refine at_iload_n C 0 dX6_digest_13 rfl ?_
              refine at_Vi C (As := [.int ((((0 : Int32) + (1 : Int32)) + (1 : Int32)) + (1 : Int32))]) (st := [.long lr969]) (b := 0) (ci := 6) (cz_X6_count σ ((((0 : Int32) + (1 : Int32)) + (1 : Int32)) + (1 : Int32)) hI (show iv 0 0 (ac_gi σ 0) from gf0) (show iv 0 0 (ac_gi σ 4) from gf4) (show iv 0 0 (ac_gi σ 12) from gf12) (show iv 0 0 (ac_gi σ 13) from gf13)) mb_X6_count ml_X6_226 rfl rfl rfl (by decide) rfl (Nat.le_of_ble_eq_true rfl) dX6_digest_14 ?_
              rintro _ _ (⟨c971, rfl, rfl, hJ972⟩ | ⟨c973, rfl, rfl, hJ974⟩)
              · exact absurd (iv_wk (iv_add (iv_add (iv_add (iv_c (c := 0) (x := (0 : Int32)) (by decide)) (iv_c (c := 1) (x := (1 : Int32)) (by decide)) (by decide) (by decide)) (iv_c (c := 1) (x := (1 : Int32)) (by decide)) (by decide) (by decide)) (iv_c (c := 1) (x := (1 : Int32)) (by decide)) (by decide) (by decide)) (by decide) (by decide) : iv 0 3 ((((0 : Int32) + (1 : Int32)) + (1 : Int32)) + (1 : Int32))) c971
              · show AT E 17 [(3, .int ((((0 : Int32) + (1 : Int32)) + (1 : Int32)) + (1 : Int32))), (1, .long lr969), (0, .ref (e_q E 0))] [.int (0 : Int32), .long lr969] σ
                refine at_Sl C (As := [.long lr969, .int (0 : Int32)]) (st := []) (cz_X6_mix σ lr969 (0 : Int32) hI) mb_X6_mix ml_X6_229 rfl (by decide) rfl (Nat.le_of_ble_eq_true rfl) dX6_digest_17 ?_
                rintro lr977 _ ⟨hr976, rfl, hJ975⟩
                · show AT E 20 [(3, .int ((((0 : Int32) + (1 : Int32)) + (1 : Int32)) + (1 : Int32))), (1, .long lr969), (0, .ref (e_q E 0))] [.long lr977] σ
                  refine at_lstore_n C (lv' := [(1, .long lr977), (3, .int ((((0 : Int32) + (1 : Int32)) + (1 : Int32)) + (1 : Int32))), (0, .ref (e_q E 0))]) dX6_digest_20 hn2 rfl ?_
                  refine at_iinc C (v := (((((0 : Int32) + (1 : Int32)) + (1 : Int32)) + (1 : Int32)) + (1 : Int32))) (lv' := [(3, .int (((((0 : Int32) + (1 : Int32)) + (1 : Int32)) + (1 : Int32)) + (1 : Int32))), (1, .long lr977), (0, .ref (e_q E 0))]) 1 dX6_digest_21 rfl rfl hn3 rfl ?_
                  refine at_goto C 6 dX6_digest_24 (by decide) ?_
                  refine at_iload_n C 0 dX6_digest_6 rfl ?_
                  refine at_iconst C (3 : Int32) dX6_digest_7 (by decide) ?_
                  refine at_icmp_gt C 27 dX6_digest_8 (by decide) (fun c978 => ?_) (fun c978 => absurd (Int32.not_lt.mp c978) (iv_xle (iv_add (iv_add (iv_add (iv_add (iv_c (c := 0) (x := (0 : Int32)) (by decide)) (iv_c (c := 1) (x := (1 : Int32)) (by decide)) (by decide) (by decide)) (iv_c (c := 1) (x := (1 : Int32)) (by decide)) (by decide) (by decide)) (iv_c (c := 1) (x := (1 : Int32)) (by decide)) (by decide) (by decide)) (iv_c (c := 1) (x := (1 : Int32)) (by decide)) (by decide) (by decide)) (iv_c (c := 3) (x := (3 : Int32)) (by decide)) (by decide)))
                  refine at_lload_n C 1 dX6_digest_27 rfl ?_
                  refine at_aload_n C 2 dX6_digest_28 rfl ?_
                  refine gf_X6_12 C dX6_digest_29 ?_
                  refine gf_X6_70 C dX6_digest_32 ?_
                  refine at_Sl C (As := [.long lr977, .int (ac_gi σ 1)]) (st := []) (cz_X6_mix σ lr977 (ac_gi σ 1) hI) mb_X6_mix ml_X6_229 rfl (by decide) rfl (Nat.le_of_ble_eq_true rfl) dX6_digest_35 ?_
                  rintro lr981 _ ⟨hr980, rfl, hJ979⟩
                  · show AT E 38 [(3, .int (((((0 : Int32) + (1 : Int32)) + (1 : Int32)) + (1 : Int32)) + (1 : Int32))), (1, .long lr977), (0, .ref (e_q E 0))] [.long lr981] σ
                    refine at_aload_n C 2 dX6_digest_38 rfl ?_
                    refine gf_X6_12 C dX6_digest_39 ?_
                    refine gf_X6_92 C dX6_digest_42 ?_
                    refine at_Sl C (As := [.long lr981, .int (ac_gi σ 2)]) (st := []) (cz_X6_mix σ lr981 (ac_gi σ 2) hI) mb_X6_mix ml_X6_229 rfl (by decide) rfl (Nat.le_of_ble_eq_true rfl) dX6_digest_45 ?_
                    rintro lr984 _ ⟨hr983, rfl, hJ982⟩
                    · show AT E 48 [(3, .int (((((0 : Int32) + (1 : Int32)) + (1 : Int32)) + (1 : Int32)) + (1 : Int32))), (1, .long lr977), (0, .ref (e_q E 0))] [.long lr984] σ
                      refine at_lstore_n C (lv' := [(1, .long lr984), (3, .int (((((0 : Int32) + (1 : Int32)) + (1 : Int32)) + (1 : Int32)) + (1 : Int32))), (0, .ref (e_q E 0))]) dX6_digest_48 hn2 rfl ?_
                      refine at_lload_n C 0 dX6_digest_49 rfl ?_
                      refine at_aload_n C 2 dX6_digest_50 rfl ?_
                      refine gf_X6_37 C dX6_digest_51 ?_
                      refine gf_X6_127 C dX6_digest_54 ?_
                      refine at_Sl C (As := [.long lr984, .int (ac_gi σ 5)]) (st := []) (cz_X6_mix σ lr984 (ac_gi σ 5) hI) mb_X6_mix ml_X6_229 rfl (by decide) rfl (Nat.le_of_ble_eq_true rfl) dX6_digest_57 ?_
                      rintro lr987 _ ⟨hr986, rfl, hJ985⟩
                      · show AT E 60 [(1, .long lr984), (3, .int (((((0 : Int32) + (1 : Int32)) + (1 : Int32)) + (1 : Int32)) + (1 : Int32))), (0, .ref (e_q E 0))] [.long lr987] σ
                        refine at_aload_n C 2 dX6_digest_60 rfl ?_
                        refine gf_X6_37 C dX6_digest_61 ?_
                        refine gf_X6_130 C dX6_digest_64 ?_
                        refine at_Sl C (As := [.long lr987, .int (ac_gi σ 6)]) (st := []) (cz_X6_mix σ lr987 (ac_gi σ 6) hI) mb_X6_mix ml_X6_229 rfl (by decide) rfl (Nat.le_of_ble_eq_true rfl) dX6_digest_67 ?_
                        rintro lr990 _ ⟨hr989, rfl, hJ988⟩
                        · show AT E 70 [(1, .long lr984), (3, .int (((((0 : Int32) + (1 : Int32)) + (1 : Int32)) + (1 : Int32)) + (1 : Int32))), (0, .ref (e_q E 0))] [.long lr990] σ
                          refine at_lstore_n C (lv' := [(1, .long lr990), (3, .int (((((0 : Int32) + (1 : Int32)) + (1 : Int32)) + (1 : Int32)) + (1 : Int32))), (0, .ref (e_q E 0))]) dX6_digest_70 hn2 rfl ?_
                          refine at_iconst C (0 : Int32) dX6_digest_71 (by decide) ?_
                          refine at_istore_n C (lv' := [(3, .int (0 : Int32)), (1, .long lr990), (0, .ref (e_q E 0))]) dX6_digest_72 hn3 rfl ?_
                          refine at_iload_n C 0 dX6_digest_73 rfl ?_
                          refine at_aload_n C 2 dX6_digest_74 rfl ?_
                          refine gf_X6_12 C dX6_digest_75 ?_
                          refine gf_X6_59 C dX6_digest_78 ?_
                          refine at_icmp_ge C 97 dX6_digest_81 (by decide) (fun c991 => ?_) (fun c991 => absurd (Int32.not_le.mp c991) (iv_xlt (iv_c (c := 0) (x := (0 : Int32)) (by decide)) gf0 (by decide)))
                          refine at_iconst C (0 : Int32) dX6_digest_97 (by decide) ?_
                          refine at_istore_n C (lv' := [(3, .int (0 : Int32)), (1, .long lr990), (0, .ref (e_q E 0))]) dX6_digest_98 hn3 rfl ?_
                          refine at_iload_n C 0 dX6_digest_99 rfl ?_
                          refine at_aload_n C 2 dX6_digest_100 rfl ?_
                          refine gf_X6_44 C dX6_digest_101 ?_
                          refine gf_X6_166 C dX6_digest_104 ?_
                          refine at_icmp_ge C 158 dX6_digest_107 (by decide) (fun c992 => ?_) (fun c992 => absurd (Int32.not_le.mp c992) (iv_xlt (iv_c (c := 0) (x := (0 : Int32)) (by decide)) gf13 (by decide)))
                          refine at_iconst C (0 : Int32) dX6_digest_158 (by decide) ?_
                          refine at_istore_n C (lv' := [(3, .int (0 : Int32)), (1, .long lr990), (0, .ref (e_q E 0))]) dX6_digest_159 hn3 rfl ?_
                          refine at_iload_n C 0 dX6_digest_160 rfl ?_
                          refine at_aload_n C 2 dX6_digest_161 rfl ?_
                          refine gf_X6_44 C dX6_digest_162 ?_
                          refine gf_X6_156 C dX6_digest_165 ?_
                          refine at_icmp_ge C 191 dX6_digest_168 (by decide) (fun c993 => ?_) (fun c993 => absurd (Int32.not_le.mp c993) (iv_xlt (iv_c (c := 0) (x := (0 : Int32)) (by decide)) gf12 (by decide)))
                          refine at_iconst C (0 : Int32) dX6_digest_191 (by decide) ?_
                          refine at_istore_n C (lv' := [(3, .int (0 : Int32)), (1, .long lr990), (0, .ref (e_q E 0))]) dX6_digest_192 hn3 rfl ?_
                          refine at_iload_n C 0 dX6_digest_193 rfl ?_
                          refine at_bipush C (16 : Int32) dX6_digest_194 (by decide) ?_
                          refine at_icmp_ge C 216 dX6_digest_196 (by decide) (fun c994 => absurd c994 (iv_xle (iv_c (c := 16) (x := (16 : Int32)) (by decide)) (iv_c (c := 0) (x := (0 : Int32)) (by decide)) (by decide))) (fun c994 => ?_)
                          refine at_lload_n C 1 dX6_digest_199 rfl ?_
                          refine at_aload_n C 2 dX6_digest_200 rfl ?_
                          refine gf_X6_55 C dX6_digest_201 ?_
                          refine at_iload_n C 0 dX6_digest_204 rfl ?_
                          refine at_iald C (c := 7) rfl (iv_in (n := 16) (iv_c (c := 0) (x := (0 : Int32)) (by decide)) (by decide) (by decide)) dX6_digest_205 ?_
                          refine at_Sl C (As := [.long lr990, .int (ac_ga σ 7 ((0 : Int32)).toNatClampNeg)]) (st := []) (cz_X6_mix σ lr990 (ac_ga σ 7 ((0 : Int32)).toNatClampNeg) hI) mb_X6_mix ml_X6_229 rfl (by decide) rfl (Nat.le_of_ble_eq_true rfl) dX6_digest_206 ?_
                          rintro lr997 _ ⟨hr996, rfl, hJ995⟩
                          · show AT E 209 [(3, .int (0 : Int32)), (1, .long lr990), (0, .ref (e_q E 0))] [.long lr997] σ
                            refine at_lstore_n C (lv' := [(1, .long lr997), (3, .int (0 : Int32)), (0, .ref (e_q E 0))]) dX6_digest_209 hn2 rfl ?_
                            refine at_iinc C (v := ((0 : Int32) + (1 : Int32))) (lv' := [(3, .int ((0 : Int32) + (1 : Int32))), (1, .long lr997), (0, .ref (e_q E 0))]) 1 dX6_digest_210 rfl rfl hn3 rfl ?_
                            refine at_goto C 193 dX6_digest_213 (by decide) ?_
                            refine at_iload_n C 0 dX6_digest_193 rfl ?_
                            refine at_bipush C (16 : Int32) dX6_digest_194 (by decide) ?_
                            refine at_icmp_ge C 216 dX6_digest_196 (by decide) (fun c998 => absurd c998 (iv_xle (iv_c (c := 16) (x := (16 : Int32)) (by decide)) (iv_add (iv_c (c := 0) (x := (0 : Int32)) (by decide)) (iv_c (c := 1) (x := (1 : Int32)) (by decide)) (by decide) (by decide)) (by decide))) (fun c998 => ?_)
                            refine at_lload_n C 1 dX6_digest_199 rfl ?_
                            refine at_aload_n C 2 dX6_digest_200 rfl ?_
                            refine gf_X6_55 C dX6_digest_201 ?_
                            refine at_iload_n C 0 dX6_digest_204 rfl ?_
                            refine at_iald C (c := 7) rfl (iv_in (n := 16) (iv_add (iv_c (c := 0) (x := (0 : Int32)) (by decide)) (iv_c (c := 1) (x := (1 : Int32)) (by decide)) (by decide) (by decide)) (by decide) (by decide)) dX6_digest_205 ?_
                            refine at_Sl C (As := [.long lr997, .int (ac_ga σ 7 (((0 : Int32) + (1 : Int32))).toNatClampNeg)]) (st := []) (cz_X6_mix σ lr997 (ac_ga σ 7 (((0 : Int32) + (1 : Int32))).toNatClampNeg) hI) mb_X6_mix ml_X6_229 rfl (by decide) rfl (Nat.le_of_ble_eq_true rfl) dX6_digest_206 ?_
                            rintro lr1001 _ ⟨hr1000, rfl, hJ999⟩
                            · show AT E 209 [(3, .int ((0 : Int32) + (1 : Int32))), (1, .long lr997), (0, .ref (e_q E 0))] [.long lr1001] σ
                              refine at_lstore_n C (lv' := [(1, .long lr1001), (3, .int ((0 : Int32) + (1 : Int32))), (0, .ref (e_q E 0))]) dX6_digest_209 hn2 rfl ?_
                              refine at_iinc C (v := (((0 : Int32) + (1 : Int32)) + (1 : Int32))) (lv' := [(3, .int (((0 : Int32) + (1 : Int32)) + (1 : Int32))), (1, .long lr1001), (0, .ref (e_q E 0))]) 1 dX6_digest_210 rfl rfl hn3 rfl ?_
                              refine at_goto C 193 dX6_digest_213 (by decide) ?_
                              refine at_iload_n C 0 dX6_digest_193 rfl ?_
                              refine at_bipush C (16 : Int32) dX6_digest_194 (by decide) ?_
                              refine at_icmp_ge C 216 dX6_digest_196 (by decide) (fun c1002 => absurd c1002 (iv_xle (iv_c (c := 16) (x := (16 : Int32)) (by decide)) (iv_add (iv_add (iv_c (c := 0) (x := (0 : Int32)) (by decide)) (iv_c (c := 1) (x := (1 : Int32)) (by decide)) (by decide) (by decide)) (iv_c (c := 1) (x := (1 : Int32)) (by decide)) (by decide) (by decide)) (by decide))) (fun c1002 => ?_)
                              refine at_lload_n C 1 dX6_digest_199 rfl ?_
                              refine at_aload_n C 2 dX6_digest_200 rfl ?_
                              refine gf_X6_55 C dX6_digest_201 ?_
                              refine at_iload_n C 0 dX6_digest_204 rfl ?_
                              refine at_iald C (c := 7) rfl (iv_in (n := 16) (iv_add (iv_add (iv_c (c := 0) (x := (0 : Int32)) (by decide)) (iv_c (c := 1) (x := (1 : Int32)) (by decide)) (by decide) (by decide)) (iv_c (c := 1) (x := (1 : Int32)) (by decide)) (by decide) (by decide)) (by decide) (by decide)) dX6_digest_205 ?_
                              refine at_Sl C (As := [.long lr1001, .int (ac_ga σ 7 ((((0 : Int32) + (1 : Int32)) + (1 : Int32))).toNatClampNeg)]) (st := []) (cz_X6_mix σ lr1001 (ac_ga σ 7 ((((0 : Int32) + (1 : Int32)) + (1 : Int32))).toNatClampNeg) hI) mb_X6_mix ml_X6_229 rfl (by decide) rfl (Nat.le_of_ble_eq_true rfl) dX6_digest_206 ?_
                              rintro lr1005 _ ⟨hr1004, rfl, hJ1003⟩
                              · show AT E 209 [(3, .int (((0 : Int32) + (1 : Int32)) + (1 : Int32))), (1, .long lr1001), (0, .ref (e_q E 0))] [.long lr1005] σ
                                refine at_lstore_n C (lv' := [(1, .long lr1005), (3, .int (((0 : Int32) + (1 : Int32)) + (1 : Int32))), (0, .ref (e_q E 0))]) dX6_digest_209 hn2 rfl ?_
                                refine at_iinc C (v := ((((0 : Int32) + (1 : Int32)) + (1 : Int32)) + (1 : Int32))) (lv' := [(3, .int ((((0 : Int32) + (1 : Int32)) + (1 : Int32)) + (1 : Int32))), (1, .long lr1005), (0, .ref (e_q E 0))]) 1 dX6_digest_210 rfl rfl hn3 rfl ?_
                                refine at_goto C 193 dX6_digest_213 (by decide) ?_
                                refine at_iload_n C 0 dX6_digest_193 rfl ?_
                                refine at_bipush C (16 : Int32) dX6_digest_194 (by decide) ?_
                                refine at_icmp_ge C 216 dX6_digest_196 (by decide) (fun c1006 => absurd c1006 (iv_xle (iv_c (c := 16) (x := (16 : Int32)) (by decide)) (iv_add (iv_add (iv_add (iv_c (c := 0) (x := (0 : Int32)) (by decide)) (iv_c (c := 1) (x := (1 : Int32)) (by decide)) (by decide) (by decide)) (iv_c (c := 1) (x := (1 : Int32)) (by decide)) (by decide) (by decide)) (iv_c (c := 1) (x := (1 : Int32)) (by decide)) (by decide) (by decide)) (by decide))) (fun c1006 => ?_)
                                refine at_lload_n C 1 dX6_digest_199 rfl ?_
                                refine at_aload_n C 2 dX6_digest_200 rfl ?_
                                refine gf_X6_55 C dX6_digest_201 ?_
                                refine at_iload_n C 0 dX6_digest_204 rfl ?_
                                refine at_iald C (c := 7) rfl (iv_in (n := 16) (iv_add (iv_add (iv_add (iv_c (c := 0) (x := (0 : Int32)) (by decide)) (iv_c (c := 1) (x := (1 : Int32)) (by decide)) (by decide) (by decide)) (iv_c (c := 1) (x := (1 : Int32)) (by decide)) (by decide) (by decide)) (iv_c (c := 1) (x := (1 : Int32)) (by decide)) (by decide) (by decide)) (by decide) (by decide)) dX6_digest_205 ?_
                                refine at_Sl C (As := [.long lr1005, .int (ac_ga σ 7 (((((0 : Int32) + (1 : Int32)) + (1 : Int32)) + (1 : Int32))).toNatClampNeg)]) (st := []) (cz_X6_mix σ lr1005 (ac_ga σ 7 (((((0 : Int32) + (1 : Int32)) + (1 : Int32)) + (1 : Int32))).toNatClampNeg) hI) mb_X6_mix ml_X6_229 rfl (by decide) rfl (Nat.le_of_ble_eq_true rfl) dX6_digest_206 ?_
                                rintro lr1009 _ ⟨hr1008, rfl, hJ1007⟩
                                · show AT E 209 [(3, .int ((((0 : Int32) + (1 : Int32)) + (1 : Int32)) + (1 : Int32))), (1, .long lr1005), (0, .ref (e_q E 0))] [.long lr1009] σ
                                  refine at_lstore_n C (lv' := [(1, .long lr1009), (3, .int ((((0 : Int32) + (1 : Int32)) + (1 : Int32)) + (1 : Int32))), (0, .ref (e_q E 0))]) dX6_digest_209 hn2 rfl ?_
                                  refine at_iinc C (v := (((((0 : Int32) + (1 : Int32)) + (1 : Int32)) + (1 : Int32)) + (1 : Int32))) (lv' := [(3, .int (((((0 : Int32) + (1 : Int32)) + (1 : Int32)) + (1 : Int32)) + (1 : Int32))), (1, .long lr1009), (0, .ref (e_q E 0))]) 1 dX6_digest_210 rfl rfl hn3 rfl ?_
                                  refine at_goto C 193 dX6_digest_213 (by decide) ?_
                                  refine at_iload_n C 0 dX6_digest_193 rfl ?_
                                  refine at_bipush C (16 : Int32) dX6_digest_194 (by decide) ?_
                                  refine at_icmp_ge C 216 dX6_digest_196 (by decide) (fun c1010 => absurd c1010 (iv_xle (iv_c (c := 16) (x := (16 : Int32)) (by decide)) (iv_add (iv_add (iv_add (iv_add (iv_c (c := 0) (x := (0 : Int32)) (by decide)) (iv_c (c := 1) (x := (1 : Int32)) (by decide)) (by decide) (by decide)) (iv_c (c := 1) (x := (1 : Int32)) (by decide)) (by decide) (by decide)) (iv_c (c := 1) (x := (1 : Int32)) (by decide)) (by decide) (by decide)) (iv_c (c := 1) (x := (1 : Int32)) (by decide)) (by decide) (by decide)) (by decide))) (fun c1010 => ?_)
                                  refine at_lload_n C 1 dX6_digest_199 rfl ?_
                                  refine at_aload_n C 2 dX6_digest_200 rfl ?_
                                  refine gf_X6_55 C dX6_digest_201 ?_
                                  refine at_iload_n C 0 dX6_digest_204 rfl ?_
                                  refine at_iald C (c := 7) rfl (iv_in (n := 16) (iv_add (iv_add (iv_add (iv_add (iv_c (c := 0) (x := (0 : Int32)) (by decide)) (iv_c (c := 1) (x := (1 : Int32)) (by decide)) (by decide) (by decide)) (iv_c (c := 1) (x := (1 : Int32)) (by decide)) (by decide) (by decide)) (iv_c (c := 1) (x := (1 : Int32)) (by decide)) (by decide) (by decide)) (iv_c (c := 1) (x := (1 : Int32)) (by decide)) (by decide) (by decide)) (by decide) (by decide)) dX6_digest_205 ?_
                                  refine at_Sl C (As := [.long lr1009, .int (ac_ga σ 7 ((((((0 : Int32) + (1 : Int32)) + (1 : Int32)) + (1 : Int32)) + (1 : Int32))).toNatClampNeg)]) (st := []) (cz_X6_mix σ lr1009 (ac_ga σ 7 ((((((0 : Int32) + (1 : Int32)) + (1 : Int32)) + (1 : Int32)) + (1 : Int32))).toNatClampNeg) hI) mb_X6_mix ml_X6_229 rfl (by decide) rfl (Nat.le_of_ble_eq_true rfl) dX6_digest_206 ?_
                                  rintro lr1013 _ ⟨hr1012, rfl, hJ1011⟩
                                  · show AT E 209 [(3, .int (((((0 : Int32) + (1 : Int32)) + (1 : Int32)) + (1 : Int32)) + (1 : Int32))), (1, .long lr1009), (0, .ref (e_q E 0))] [.long lr1013] σ
                                    refine at_lstore_n C (lv' := [(1, .long lr1013), (3, .int (((((0 : Int32) + (1 : Int32)) + (1 : Int32)) + (1 : Int32)) + (1 : Int32))), (0, .ref (e_q E 0))]) dX6_digest_209 hn2 rfl ?_
                                    refine at_iinc C (v := ((((((0 : Int32) + (1 : Int32)) + (1 : Int32)) + (1 : Int32)) + (1 : Int32)) + (1 : Int32))) (lv' := [(3, .int ((((((0 : Int32) + (1 : Int32)) + (1 : Int32)) + (1 : Int32)) + (1 : Int32)) + (1 : Int32))), (1, .long lr1013), (0, .ref (e_q E 0))]) 1 dX6_digest_210 rfl rfl hn3 rfl ?_
                                    refine at_goto C 193 dX6_digest_213 (by decide) ?_
                                    refine at_iload_n C 0 dX6_digest_193 rfl ?_
                                    refine at_bipush C (16 : Int32) dX6_digest_194 (by decide) ?_
                                    refine at_icmp_ge C 216 dX6_digest_196 (by decide) (fun c1014 => absurd c1014 (iv_xle (iv_c (c := 16) (x := (16 : Int32)) (by decide)) (iv_add (iv_add (iv_add (iv_add (iv_add (iv_c (c := 0) (x := (0 : Int32)) (by decide)) (iv_c (c := 1) (x := (1 : Int32)) (by decide)) (by decide) (by decide)) (iv_c (c := 1) (x := (1 : Int32)) (by decide)) (by decide) (by decide)) (iv_c (c := 1) (x := (1 : Int32)) (by decide)) (by decide) (by decide)) (iv_c (c := 1) (x := (1 : Int32)) (by decide)) (by decide) (by decide)) (iv_c (c := 1) (x := (1 : Int32)) (by decide)) (by decide) (by decide)) (by decide))) (fun c1014 => ?_)
                                    refine at_lload_n C 1 dX6_digest_199 rfl ?_
                                    refine at_aload_n C 2 dX6_digest_200 rfl ?_
                                    refine gf_X6_55 C dX6_digest_201 ?_
                                    refine at_iload_n C 0 dX6_digest_204 rfl ?_
                                    refine at_iald C (c := 7) rfl (iv_in (n := 16) (iv_add (iv_add (iv_add (iv_add (iv_add (iv_c (c := 0) (x := (0 : Int32)) (by decide)) (iv_c (c := 1) (x := (1 : Int32)) (by decide)) (by decide) (by decide)) (iv_c (c := 1) (x := (1 : Int32)) (by decide)) (by decide) (by decide)) (iv_c (c := 1) (x := (1 : Int32)) (by decide)) (by decide) (by decide)) (iv_c (c := 1) (x := (1 : Int32)) (by decide)) (by decide) (by decide)) (iv_c (c := 1) (x := (1 : Int32)) (by decide)) (by decide) (by decide)) (by decide) (by decide)) dX6_digest_205 ?_
                                    refine at_Sl C (As := [.long lr1013, .int (ac_ga σ 7 (((((((0 : Int32) + (1 : Int32)) + (1 : Int32)) + (1 : Int32)) + (1 : Int32)) + (1 : Int32))).toNatClampNeg)]) (st := []) (cz_X6_mix σ lr1013 (ac_ga σ 7 (((((((0 : Int32) + (1 : Int32)) + (1 : Int32)) + (1 : Int32)) + (1 : Int32)) + (1 : Int32))).toNatClampNeg) hI) mb_X6_mix ml_X6_229 rfl (by decide) rfl (Nat.le_of_ble_eq_true rfl) dX6_digest_206 ?_
                                    rintro lr1017 _ ⟨hr1016, rfl, hJ1015⟩
                                    · show AT E 209 [(3, .int ((((((0 : Int32) + (1 : Int32)) + (1 : Int32)) + (1 : Int32)) + (1 : Int32)) + (1 : Int32))), (1, .long lr1013), (0, .ref (e_q E 0))] [.long lr1017] σ
                                      refine at_lstore_n C (lv' := [(1, .long lr1017), (3, .int ((((((0 : Int32) + (1 : Int32)) + (1 : Int32)) + (1 : Int32)) + (1 : Int32)) + (1 : Int32))), (0, .ref (e_q E 0))]) dX6_digest_209 hn2 rfl ?_
                                      refine at_iinc C (v := (((((((0 : Int32) + (1 : Int32)) + (1 : Int32)) + (1 : Int32)) + (1 : Int32)) + (1 : Int32)) + (1 : Int32))) (lv' := [(3, .int (((((((0 : Int32) + (1 : Int32)) + (1 : Int32)) + (1 : Int32)) + (1 : Int32)) + (1 : Int32)) + (1 : Int32))), (1, .long lr1017), (0, .ref (e_q E 0))]) 1 dX6_digest_210 rfl rfl hn3 rfl ?_
                                      refine at_goto C 193 dX6_digest_213 (by decide) ?_
                                      refine at_iload_n C 0 dX6_digest_193 rfl ?_
                                      refine at_bipush C (16 : Int32) dX6_digest_194 (by decide) ?_
                                      refine at_icmp_ge C 216 dX6_digest_196 (by decide) (fun c1018 => absurd c1018 (iv_xle (iv_c (c := 16) (x := (16 : Int32)) (by decide)) (iv_add (iv_add (iv_add (iv_add (iv_add (iv_add (iv_c (c := 0) (x := (0 : Int32)) (by decide)) (iv_c (c := 1) (x := (1 : Int32)) (by decide)) (by decide) (by decide)) (iv_c (c := 1) (x := (1 : Int32)) (by decide)) (by decide) (by decide)) (iv_c (c := 1) (x := (1 : Int32)) (by decide)) (by decide) (by decide)) (iv_c (c := 1) (x := (1 : Int32)) (by decide)) (by decide) (by decide)) (iv_c (c := 1) (x := (1 : Int32)) (by decide)) (by decide) (by decide)) (iv_c (c := 1) (x := (1 : Int32)) (by decide)) (by decide) (by decide)) (by decide))) (fun c1018 => ?_)
                                      refine at_lload_n C 1 dX6_digest_199 rfl ?_
                                      refine at_aload_n C 2 dX6_digest_200 rfl ?_
                                      refine gf_X6_55 C dX6_digest_201 ?_
                                      refine at_iload_n C 0 dX6_digest_204 rfl ?_
                                      refine at_iald C (c := 7) rfl (iv_in (n := 16) (iv_add (iv_add (iv_add (iv_add (iv_add (iv_add (iv_c (c := 0) (x := (0 : Int32)) (by decide)) (iv_c (c := 1) (x := (1 : Int32)) (by decide)) (by decide) (by decide)) (iv_c (c := 1) (x := (1 : Int32)) (by decide)) (by decide) (by decide)) (iv_c (c := 1) (x := (1 : Int32)) (by decide)) (by decide) (by decide)) (iv_c (c := 1) (x := (1 : Int32)) (by decide)) (by decide) (by decide)) (iv_c (c := 1) (x := (1 : Int32)) (by decide)) (by decide) (by decide)) (iv_c (c := 1) (x := (1 : Int32)) (by decide)) (by decide) (by decide)) (by decide) (by decide)) dX6_digest_205 ?_
                                      refine at_Sl C (As := [.long lr1017, .int (ac_ga σ 7 ((((((((0 : Int32) + (1 : Int32)) + (1 : Int32)) + (1 : Int32)) + (1 : Int32)) + (1 : Int32)) + (1 : Int32))).toNatClampNeg)]) (st := []) (cz_X6_mix σ lr1017 (ac_ga σ 7 ((((((((0 : Int32) + (1 : Int32)) + (1 : Int32)) + (1 : Int32)) + (1 : Int32)) + (1 : Int32)) + (1 : Int32))).toNatClampNeg) hI) mb_X6_mix ml_X6_229 rfl (by decide) rfl (Nat.le_of_ble_eq_true rfl) dX6_digest_206 ?_
                                      rintro lr1021 _ ⟨hr1020, rfl, hJ1019⟩
                                      · show AT E 209 [(3, .int (((((((0 : Int32) + (1 : Int32)) + (1 : Int32)) + (1 : Int32)) + (1 : Int32)) + (1 : Int32)) + (1 : Int32))), (1, .long lr1017), (0, .ref (e_q E 0))] [.long lr1021] σ
                                        refine at_lstore_n C (lv' := [(1, .long lr1021), (3, .int (((((((0 : Int32) + (1 : Int32)) + (1 : Int32)) + (1 : Int32)) + (1 : Int32)) + (1 : Int32)) + (1 : Int32))), (0, .ref (e_q E 0))]) dX6_digest_209 hn2 rfl ?_
                                        refine at_iinc C (v := ((((((((0 : Int32) + (1 : Int32)) + (1 : Int32)) + (1 : Int32)) + (1 : Int32)) + (1 : Int32)) + (1 : Int32)) + (1 : Int32))) (lv' := [(3, .int ((((((((0 : Int32) + (1 : Int32)) + (1 : Int32)) + (1 : Int32)) + (1 : Int32)) + (1 : Int32)) + (1 : Int32)) + (1 : Int32))), (1, .long lr1021), (0, .ref (e_q E 0))]) 1 dX6_digest_210 rfl rfl hn3 rfl ?_
                                        refine at_goto C 193 dX6_digest_213 (by decide) ?_
                                        refine at_iload_n C 0 dX6_digest_193 rfl ?_
                                        refine at_bipush C (16 : Int32) dX6_digest_194 (by decide) ?_
                                        refine at_icmp_ge C 216 dX6_digest_196 (by decide) (fun c1022 => absurd c1022 (iv_xle (iv_c (c := 16) (x := (16 : Int32)) (by decide)) (iv_add (iv_add (iv_add (iv_add (iv_add (iv_add (iv_add (iv_c (c := 0) (x := (0 : Int32)) (by decide)) (iv_c (c := 1) (x := (1 : Int32)) (by decide)) (by decide) (by decide)) (iv_c (c := 1) (x := (1 : Int32)) (by decide)) (by decide) (by decide)) (iv_c (c := 1) (x := (1 : Int32)) (by decide)) (by decide) (by decide)) (iv_c (c := 1) (x := (1 : Int32)) (by decide)) (by decide) (by decide)) (iv_c (c := 1) (x := (1 : Int32)) (by decide)) (by decide) (by decide)) (iv_c (c := 1) (x := (1 : Int32)) (by decide)) (by decide) (by decide)) (iv_c (c := 1) (x := (1 : Int32)) (by decide)) (by decide) (by decide)) (by decide))) (fun c1022 => ?_)
                                        refine at_lload_n C 1 dX6_digest_199 rfl ?_
                                        refine at_aload_n C 2 dX6_digest_200 rfl ?_
                                        refine gf_X6_55 C dX6_digest_201 ?_
                                        refine at_iload_n C 0 dX6_digest_204 rfl ?_
                                        refine at_iald C (c := 7) rfl (iv_in (n := 16) (iv_add (iv_add (iv_add (iv_add (iv_add (iv_add (iv_add (iv_c (c := 0) (x := (0 : Int32)) (by decide)) (iv_c (c := 1) (x := (1 : Int32)) (by decide)) (by decide) (by decide)) (iv_c (c := 1) (x := (1 : Int32)) (by decide)) (by decide) (by decide)) (iv_c (c := 1) (x := (1 : Int32)) (by decide)) (by decide) (by decide)) (iv_c (c := 1) (x := (1 : Int32)) (by decide)) (by decide) (by decide)) (iv_c (c := 1) (x := (1 : Int32)) (by decide)) (by decide) (by decide)) (iv_c (c := 1) (x := (1 : Int32)) (by decide)) (by decide) (by decide)) (iv_c (c := 1) (x := (1 : Int32)) (by decide)) (by decide) (by decide)) (by decide) (by decide)) dX6_digest_205 ?_
                                        refine at_Sl C (As := [.long lr1021, .int (ac_ga σ 7 (((((((((0 : Int32) + (1 : Int32)) + (1 : Int32)) + (1 : Int32)) + (1 : Int32)) + (1 : Int32)) + (1 : Int32)) + (1 : Int32))).toNatClampNeg)]) (st := []) (cz_X6_mix σ lr1021 (ac_ga σ 7 (((((((((0 : Int32) + (1 : Int32)) + (1 : Int32)) + (1 : Int32)) + (1 : Int32)) + (1 : Int32)) + (1 : Int32)) + (1 : Int32))).toNatClampNeg) hI) mb_X6_mix ml_X6_229 rfl (by decide) rfl (Nat.le_of_ble_eq_true rfl) dX6_digest_206 ?_
                                        rintro lr1025 _ ⟨hr1024, rfl, hJ1023⟩
                                        · show AT E 209 [(3, .int ((((((((0 : Int32) + (1 : Int32)) + (1 : Int32)) + (1 : Int32)) + (1 : Int32)) + (1 : Int32)) + (1 : Int32)) + (1 : Int32))), (1, .long lr1021), (0, .ref (e_q E 0))] [.long lr1025] σ
                                          refine at_lstore_n C (lv' := [(1, .long lr1025), (3, .int ((((((((0 : Int32) + (1 : Int32)) + (1 : Int32)) + (1 : Int32)) + (1 : Int32)) + (1 : Int32)) + (1 : Int32)) + (1 : Int32))), (0, .ref (e_q E 0))]) dX6_digest_209 hn2 rfl ?_
                                          refine at_iinc C (v := (((((((((0 : Int32) + (1 : Int32)) + (1 : Int32)) + (1 : Int32)) + (1 : Int32)) + (1 : Int32)) + (1 : Int32)) + (1 : Int32)) + (1 : Int32))) (lv' := [(3, .int (((((((((0 : Int32) + (1 : Int32)) + (1 : Int32)) + (1 : Int32)) + (1 : Int32)) + (1 : Int32)) + (1 : Int32)) + (1 : Int32)) + (1 : Int32))), (1, .long lr1025), (0, .ref (e_q E 0))]) 1 dX6_digest_210 rfl rfl hn3 rfl ?_
                                          refine at_goto C 193 dX6_digest_213 (by decide) ?_
                                          refine at_iload_n C 0 dX6_digest_193 rfl ?_
                                          refine at_bipush C (16 : Int32) dX6_digest_194 (by decide) ?_
                                          refine at_icmp_ge C 216 dX6_digest_196 (by decide) (fun c1026 => absurd c1026 (iv_xle (iv_c (c := 16) (x := (16 : Int32)) (by decide)) (iv_add (iv_add (iv_add (iv_add (iv_add (iv_add (iv_add (iv_add (iv_c (c := 0) (x := (0 : Int32)) (by decide)) (iv_c (c := 1) (x := (1 : Int32)) (by decide)) (by decide) (by decide)) (iv_c (c := 1) (x := (1 : Int32)) (by decide)) (by decide) (by decide)) (iv_c (c := 1) (x := (1 : Int32)) (by decide)) (by decide) (by decide)) (iv_c (c := 1) (x := (1 : Int32)) (by decide)) (by decide) (by decide)) (iv_c (c := 1) (x := (1 : Int32)) (by decide)) (by decide) (by decide)) (iv_c (c := 1) (x := (1 : Int32)) (by decide)) (by decide) (by decide)) (iv_c (c := 1) (x := (1 : Int32)) (by decide)) (by decide) (by decide)) (iv_c (c := 1) (x := (1 : Int32)) (by decide)) (by decide) (by decide)) (by decide))) (fun c1026 => ?_)
                                          refine at_lload_n C 1 dX6_digest_199 rfl ?_
                                          refine at_aload_n C 2 dX6_digest_200 rfl ?_
                                          refine gf_X6_55 C dX6_digest_201 ?_
                                          refine at_iload_n C 0 dX6_digest_204 rfl ?_
                                          refine at_iald C (c := 7) rfl (iv_in (n := 16) (iv_add (iv_add (iv_add (iv_add (iv_add (iv_add (iv_add (iv_add (iv_c (c := 0) (x := (0 : Int32)) (by decide)) (iv_c (c := 1) (x := (1 : Int32)) (by decide)) (by decide) (by decide)) (iv_c (c := 1) (x := (1 : Int32)) (by decide)) (by decide) (by decide)) (iv_c (c := 1) (x := (1 : Int32)) (by decide)) (by decide) (by decide)) (iv_c (c := 1) (x := (1 : Int32)) (by decide)) (by decide) (by decide)) (iv_c (c := 1) (x := (1 : Int32)) (by decide)) (by decide) (by decide)) (iv_c (c := 1) (x := (1 : Int32)) (by decide)) (by decide) (by decide)) (iv_c (c := 1) (x := (1 : Int32)) (by decide)) (by decide) (by decide)) (iv_c (c := 1) (x := (1 : Int32)) (by decide)) (by decide) (by decide)) (by decide) (by decide)) dX6_digest_205 ?_
                                          refine at_Sl C (As := [.long lr1025, .int (ac_ga σ 7 ((((((((((0 : Int32) + (1 : Int32)) + (1 : Int32)) + (1 : Int32)) + (1 : Int32)) + (1 : Int32)) + (1 : Int32)) + (1 : Int32)) + (1 : Int32))).toNatClampNeg)]) (st := []) (cz_X6_mix σ lr1025 (ac_ga σ 7 ((((((((((0 : Int32) + (1 : Int32)) + (1 : Int32)) + (1 : Int32)) + (1 : Int32)) + (1 : Int32)) + (1 : Int32)) + (1 : Int32)) + (1 : Int32))).toNatClampNeg) hI) mb_X6_mix ml_X6_229 rfl (by decide) rfl (Nat.le_of_ble_eq_true rfl) dX6_digest_206 ?_
                                          rintro lr1029 _ ⟨hr1028, rfl, hJ1027⟩
                                          · show AT E 209 [(3, .int (((((((((0 : Int32) + (1 : Int32)) + (1 : Int32)) + (1 : Int32)) + (1 : Int32)) + (1 : Int32)) + (1 : Int32)) + (1 : Int32)) + (1 : Int32))), (1, .long lr1025), (0, .ref (e_q E 0))] [.long lr1029] σ
                                            refine at_lstore_n C (lv' := [(1, .long lr1029), (3, .int (((((((((0 : Int32) + (1 : Int32)) + (1 : Int32)) + (1 : Int32)) + (1 : Int32)) + (1 : Int32)) + (1 : Int32)) + (1 : Int32)) + (1 : Int32))), (0, .ref (e_q E 0))]) dX6_digest_209 hn2 rfl ?_
                                            refine at_iinc C (v := ((((((((((0 : Int32) + (1 : Int32)) + (1 : Int32)) + (1 : Int32)) + (1 : Int32)) + (1 : Int32)) + (1 : Int32)) + (1 : Int32)) + (1 : Int32)) + (1 : Int32))) (lv' := [(3, .int ((((((((((0 : Int32) + (1 : Int32)) + (1 : Int32)) + (1 : Int32)) + (1 : Int32)) + (1 : Int32)) + (1 : Int32)) + (1 : Int32)) + (1 : Int32)) + (1 : Int32))), (1, .long lr1029), (0, .ref (e_q E 0))]) 1 dX6_digest_210 rfl rfl hn3 rfl ?_
                                            refine at_goto C 193 dX6_digest_213 (by decide) ?_
                                            refine at_iload_n C 0 dX6_digest_193 rfl ?_
                                            refine at_bipush C (16 : Int32) dX6_digest_194 (by decide) ?_
                                            refine at_icmp_ge C 216 dX6_digest_196 (by decide) (fun c1030 => absurd c1030 (iv_xle (iv_c (c := 16) (x := (16 : Int32)) (by decide)) (iv_add (iv_add (iv_add (iv_add (iv_add (iv_add (iv_add (iv_add (iv_add (iv_c (c := 0) (x := (0 : Int32)) (by decide)) (iv_c (c := 1) (x := (1 : Int32)) (by decide)) (by decide) (by decide)) (iv_c (c := 1) (x := (1 : Int32)) (by decide)) (by decide) (by decide)) (iv_c (c := 1) (x := (1 : Int32)) (by decide)) (by decide) (by decide)) (iv_c (c := 1) (x := (1 : Int32)) (by decide)) (by decide) (by decide)) (iv_c (c := 1) (x := (1 : Int32)) (by decide)) (by decide) (by decide)) (iv_c (c := 1) (x := (1 : Int32)) (by decide)) (by decide) (by decide)) (iv_c (c := 1) (x := (1 : Int32)) (by decide)) (by decide) (by decide)) (iv_c (c := 1) (x := (1 : Int32)) (by decide)) (by decide) (by decide)) (iv_c (c := 1) (x := (1 : Int32)) (by decide)) (by decide) (by decide)) (by decide))) (fun c1030 => ?_)
                                            refine at_lload_n C 1 dX6_digest_199 rfl ?_
                                            refine at_aload_n C 2 dX6_digest_200 rfl ?_
                                            refine gf_X6_55 C dX6_digest_201 ?_
                                            refine at_iload_n C 0 dX6_digest_204 rfl ?_
                                            refine at_iald C (c := 7) rfl (iv_in (n := 16) (iv_add (iv_add (iv_add (iv_add (iv_add (iv_add (iv_add (iv_add (iv_add (iv_c (c := 0) (x := (0 : Int32)) (by decide)) (iv_c (c := 1) (x := (1 : Int32)) (by decide)) (by decide) (by decide)) (iv_c (c := 1) (x := (1 : Int32)) (by decide)) (by decide) (by decide)) (iv_c (c := 1) (x := (1 : Int32)) (by decide)) (by decide) (by decide)) (iv_c (c := 1) (x := (1 : Int32)) (by decide)) (by decide) (by decide)) (iv_c (c := 1) (x := (1 : Int32)) (by decide)) (by decide) (by decide)) (iv_c (c := 1) (x := (1 : Int32)) (by decide)) (by decide) (by decide)) (iv_c (c := 1) (x := (1 : Int32)) (by decide)) (by decide) (by decide)) (iv_c (c := 1) (x := (1 : Int32)) (by decide)) (by decide) (by decide)) (iv_c (c := 1) (x := (1 : Int32)) (by decide)) (by decide) (by decide)) (by decide) (by decide)) dX6_digest_205 ?_
                                            refine at_Sl C (As := [.long lr1029, .int (ac_ga σ 7 (((((((((((0 : Int32) + (1 : Int32)) + (1 : Int32)) + (1 : Int32)) + (1 : Int32)) + (1 : Int32)) + (1 : Int32)) + (1 : Int32)) + (1 : Int32)) + (1 : Int32))).toNatClampNeg)]) (st := []) (cz_X6_mix σ lr1029 (ac_ga σ 7 (((((((((((0 : Int32) + (1 : Int32)) + (1 : Int32)) + (1 : Int32)) + (1 : Int32)) + (1 : Int32)) + (1 : Int32)) + (1 : Int32)) + (1 : Int32)) + (1 : Int32))).toNatClampNeg) hI) mb_X6_mix ml_X6_229 rfl (by decide) rfl (Nat.le_of_ble_eq_true rfl) dX6_digest_206 ?_
                                            rintro lr1033 _ ⟨hr1032, rfl, hJ1031⟩
                                            · show AT E 209 [(3, .int ((((((((((0 : Int32) + (1 : Int32)) + (1 : Int32)) + (1 : Int32)) + (1 : Int32)) + (1 : Int32)) + (1 : Int32)) + (1 : Int32)) + (1 : Int32)) + (1 : Int32))), (1, .long lr1029), (0, .ref (e_q E 0))] [.long lr1033] σ
                                              refine at_lstore_n C (lv' := [(1, .long lr1033), (3, .int ((((((((((0 : Int32) + (1 : Int32)) + (1 : Int32)) + (1 : Int32)) + (1 : Int32)) + (1 : Int32)) + (1 : Int32)) + (1 : Int32)) + (1 : Int32)) + (1 : Int32))), (0, .ref (e_q E 0))]) dX6_digest_209 hn2 rfl ?_
                                              refine at_iinc C (v := (((((((((((0 : Int32) + (1 : Int32)) + (1 : Int32)) + (1 : Int32)) + (1 : Int32)) + (1 : Int32)) + (1 : Int32)) + (1 : Int32)) + (1 : Int32)) + (1 : Int32)) + (1 : Int32))) (lv' := [(3, .int (((((((((((0 : Int32) + (1 : Int32)) + (1 : Int32)) + (1 : Int32)) + (1 : Int32)) + (1 : Int32)) + (1 : Int32)) + (1 : Int32)) + (1 : Int32)) + (1 : Int32)) + (1 : Int32))), (1, .long lr1033), (0, .ref (e_q E 0))]) 1 dX6_digest_210 rfl rfl hn3 rfl ?_
                                              refine at_goto C 193 dX6_digest_213 (by decide) ?_
                                              refine at_iload_n C 0 dX6_digest_193 rfl ?_
                                              refine at_bipush C (16 : Int32) dX6_digest_194 (by decide) ?_
                                              refine at_icmp_ge C 216 dX6_digest_196 (by decide) (fun c1034 => absurd c1034 (iv_xle (iv_c (c := 16) (x := (16 : Int32)) (by decide)) (iv_add (iv_add (iv_add (iv_add (iv_add (iv_add (iv_add (iv_add (iv_add (iv_add (iv_c (c := 0) (x := (0 : Int32)) (by decide)) (iv_c (c := 1) (x := (1 : Int32)) (by decide)) (by decide) (by decide)) (iv_c (c := 1) (x := (1 : Int32)) (by decide)) (by decide) (by decide)) (iv_c (c := 1) (x := (1 : Int32)) (by decide)) (by decide) (by decide)) (iv_c (c := 1) (x := (1 : Int32)) (by decide)) (by decide) (by decide)) (iv_c (c := 1) (x := (1 : Int32)) (by decide)) (by decide) (by decide)) (iv_c (c := 1) (x := (1 : Int32)) (by decide)) (by decide) (by decide)) (iv_c (c := 1) (x := (1 : Int32)) (by decide)) (by decide) (by decide)) (iv_c (c := 1) (x := (1 : Int32)) (by decide)) (by decide) (by decide)) (iv_c (c := 1) (x := (1 : Int32)) (by decide)) (by decide) (by decide)) (iv_c (c := 1) (x := (1 : Int32)) (by decide)) (by decide) (by decide)) (by decide))) (fun c1034 => ?_)
                                              refine at_lload_n C 1 dX6_digest_199 rfl ?_
                                              refine at_aload_n C 2 dX6_digest_200 rfl ?_
                                              refine gf_X6_55 C dX6_digest_201 ?_
                                              refine at_iload_n C 0 dX6_digest_204 rfl ?_
                                              refine at_iald C (c := 7) rfl (iv_in (n := 16) (iv_add (iv_add (iv_add (iv_add (iv_add (iv_add (iv_add (iv_add (iv_add (iv_add (iv_c (c := 0) (x := (0 : Int32)) (by decide)) (iv_c (c := 1) (x := (1 : Int32)) (by decide)) (by decide) (by decide)) (iv_c (c := 1) (x := (1 : Int32)) (by decide)) (by decide) (by decide)) (iv_c (c := 1) (x := (1 : Int32)) (by decide)) (by decide) (by decide)) (iv_c (c := 1) (x := (1 : Int32)) (by decide)) (by decide) (by decide)) (iv_c (c := 1) (x := (1 : Int32)) (by decide)) (by decide) (by decide)) (iv_c (c := 1) (x := (1 : Int32)) (by decide)) (by decide) (by decide)) (iv_c (c := 1) (x := (1 : Int32)) (by decide)) (by decide) (by decide)) (iv_c (c := 1) (x := (1 : Int32)) (by decide)) (by decide) (by decide)) (iv_c (c := 1) (x := (1 : Int32)) (by decide)) (by decide) (by decide)) (iv_c (c := 1) (x := (1 : Int32)) (by decide)) (by decide) (by decide)) (by decide) (by decide)) dX6_digest_205 ?_
                                              refine at_Sl C (As := [.long lr1033, .int (ac_ga σ 7 ((((((((((((0 : Int32) + (1 : Int32)) + (1 : Int32)) + (1 : Int32)) + (1 : Int32)) + (1 : Int32)) + (1 : Int32)) + (1 : Int32)) + (1 : Int32)) + (1 : Int32)) + (1 : Int32))).toNatClampNeg)]) (st := []) (cz_X6_mix σ lr1033 (ac_ga σ 7 ((((((((((((0 : Int32) + (1 : Int32)) + (1 : Int32)) + (1 : Int32)) + (1 : Int32)) + (1 : Int32)) + (1 : Int32)) + (1 : Int32)) + (1 : Int32)) + (1 : Int32)) + (1 : Int32))).toNatClampNeg) hI) mb_X6_mix ml_X6_229 rfl (by decide) rfl (Nat.le_of_ble_eq_true rfl) dX6_digest_206 ?_
                                              rintro lr1037 _ ⟨hr1036, rfl, hJ1035⟩
                                              · show AT E 209 [(3, .int (((((((((((0 : Int32) + (1 : Int32)) + (1 : Int32)) + (1 : Int32)) + (1 : Int32)) + (1 : Int32)) + (1 : Int32)) + (1 : Int32)) + (1 : Int32)) + (1 : Int32)) + (1 : Int32))), (1, .long lr1033), (0, .ref (e_q E 0))] [.long lr1037] σ
                                                refine at_lstore_n C (lv' := [(1, .long lr1037), (3, .int (((((((((((0 : Int32) + (1 : Int32)) + (1 : Int32)) + (1 : Int32)) + (1 : Int32)) + (1 : Int32)) + (1 : Int32)) + (1 : Int32)) + (1 : Int32)) + (1 : Int32)) + (1 : Int32))), (0, .ref (e_q E 0))]) dX6_digest_209 hn2 rfl ?_
                                                refine at_iinc C (v := ((((((((((((0 : Int32) + (1 : Int32)) + (1 : Int32)) + (1 : Int32)) + (1 : Int32)) + (1 : Int32)) + (1 : Int32)) + (1 : Int32)) + (1 : Int32)) + (1 : Int32)) + (1 : Int32)) + (1 : Int32))) (lv' := [(3, .int ((((((((((((0 : Int32) + (1 : Int32)) + (1 : Int32)) + (1 : Int32)) + (1 : Int32)) + (1 : Int32)) + (1 : Int32)) + (1 : Int32)) + (1 : Int32)) + (1 : Int32)) + (1 : Int32)) + (1 : Int32))), (1, .long lr1037), (0, .ref (e_q E 0))]) 1 dX6_digest_210 rfl rfl hn3 rfl ?_
                                                refine at_goto C 193 dX6_digest_213 (by decide) ?_
                                                refine at_iload_n C 0 dX6_digest_193 rfl ?_
                                                refine at_bipush C (16 : Int32) dX6_digest_194 (by decide) ?_
                                                refine at_icmp_ge C 216 dX6_digest_196 (by decide) (fun c1038 => absurd c1038 (iv_xle (iv_c (c := 16) (x := (16 : Int32)) (by decide)) (iv_add (iv_add (iv_add (iv_add (iv_add (iv_add (iv_add (iv_add (iv_add (iv_add (iv_add (iv_c (c := 0) (x := (0 : Int32)) (by decide)) (iv_c (c := 1) (x := (1 : Int32)) (by decide)) (by decide) (by decide)) (iv_c (c := 1) (x := (1 : Int32)) (by decide)) (by decide) (by decide)) (iv_c (c := 1) (x := (1 : Int32)) (by decide)) (by decide) (by decide)) (iv_c (c := 1) (x := (1 : Int32)) (by decide)) (by decide) (by decide)) (iv_c (c := 1) (x := (1 : Int32)) (by decide)) (by decide) (by decide)) (iv_c (c := 1) (x := (1 : Int32)) (by decide)) (by decide) (by decide)) (iv_c (c := 1) (x := (1 : Int32)) (by decide)) (by decide) (by decide)) (iv_c (c := 1) (x := (1 : Int32)) (by decide)) (by decide) (by decide)) (iv_c (c := 1) (x := (1 : Int32)) (by decide)) (by decide) (by decide)) (iv_c (c := 1) (x := (1 : Int32)) (by decide)) (by decide) (by decide)) (iv_c (c := 1) (x := (1 : Int32)) (by decide)) (by decide) (by decide)) (by decide))) (fun c1038 => ?_)
                                                refine at_lload_n C 1 dX6_digest_199 rfl ?_
                                                refine at_aload_n C 2 dX6_digest_200 rfl ?_
                                                refine gf_X6_55 C dX6_digest_201 ?_
                                                refine at_iload_n C 0 dX6_digest_204 rfl ?_
                                                refine at_iald C (c := 7) rfl (iv_in (n := 16) (iv_add (iv_add (iv_add (iv_add (iv_add (iv_add (iv_add (iv_add (iv_add (iv_add (iv_add (iv_c (c := 0) (x := (0 : Int32)) (by decide)) (iv_c (c := 1) (x := (1 : Int32)) (by decide)) (by decide) (by decide)) (iv_c (c := 1) (x := (1 : Int32)) (by decide)) (by decide) (by decide)) (iv_c (c := 1) (x := (1 : Int32)) (by decide)) (by decide) (by decide)) (iv_c (c := 1) (x := (1 : Int32)) (by decide)) (by decide) (by decide)) (iv_c (c := 1) (x := (1 : Int32)) (by decide)) (by decide) (by decide)) (iv_c (c := 1) (x := (1 : Int32)) (by decide)) (by decide) (by decide)) (iv_c (c := 1) (x := (1 : Int32)) (by decide)) (by decide) (by decide)) (iv_c (c := 1) (x := (1 : Int32)) (by decide)) (by decide) (by decide)) (iv_c (c := 1) (x := (1 : Int32)) (by decide)) (by decide) (by decide)) (iv_c (c := 1) (x := (1 : Int32)) (by decide)) (by decide) (by decide)) (iv_c (c := 1) (x := (1 : Int32)) (by decide)) (by decide) (by decide)) (by decide) (by decide)) dX6_digest_205 ?_
                                                refine at_Sl C (As := [.long lr1037, .int (ac_ga σ 7 (((((((((((((0 : Int32) + (1 : Int32)) + (1 : Int32)) + (1 : Int32)) + (1 : Int32)) + (1 : Int32)) + (1 : Int32)) + (1 : Int32)) + (1 : Int32)) + (1 : Int32)) + (1 : Int32)) + (1 : Int32))).toNatClampNeg)]) (st := []) (cz_X6_mix σ lr1037 (ac_ga σ 7 (((((((((((((0 : Int32) + (1 : Int32)) + (1 : Int32)) + (1 : Int32)) + (1 : Int32)) + (1 : Int32)) + (1 : Int32)) + (1 : Int32)) + (1 : Int32)) + (1 : Int32)) + (1 : Int32)) + (1 : Int32))).toNatClampNeg) hI) mb_X6_mix ml_X6_229 rfl (by decide) rfl (Nat.le_of_ble_eq_true rfl) dX6_digest_206 ?_
                                                rintro lr1041 _ ⟨hr1040, rfl, hJ1039⟩
                                                · show AT E 209 [(3, .int ((((((((((((0 : Int32) + (1 : Int32)) + (1 : Int32)) + (1 : Int32)) + (1 : Int32)) + (1 : Int32)) + (1 : Int32)) + (1 : Int32)) + (1 : Int32)) + (1 : Int32)) + (1 : Int32)) + (1 : Int32))), (1, .long lr1037), (0, .ref (e_q E 0))] [.long lr1041] σ
                                                  refine at_lstore_n C (lv' := [(1, .long lr1041), (3, .int ((((((((((((0 : Int32) + (1 : Int32)) + (1 : Int32)) + (1 : Int32)) + (1 : Int32)) + (1 : Int32)) + (1 : Int32)) + (1 : Int32)) + (1 : Int32)) + (1 : Int32)) + (1 : Int32)) + (1 : Int32))), (0, .ref (e_q E 0))]) dX6_digest_209 hn2 rfl ?_
                                                  refine at_iinc C (v := (((((((((((((0 : Int32) + (1 : Int32)) + (1 : Int32)) + (1 : Int32)) + (1 : Int32)) + (1 : Int32)) + (1 : Int32)) + (1 : Int32)) + (1 : Int32)) + (1 : Int32)) + (1 : Int32)) + (1 : Int32)) + (1 : Int32))) (lv' := [(3, .int (((((((((((((0 : Int32) + (1 : Int32)) + (1 : Int32)) + (1 : Int32)) + (1 : Int32)) + (1 : Int32)) + (1 : Int32)) + (1 : Int32)) + (1 : Int32)) + (1 : Int32)) + (1 : Int32)) + (1 : Int32)) + (1 : Int32))), (1, .long lr1041), (0, .ref (e_q E 0))]) 1 dX6_digest_210 rfl rfl hn3 rfl ?_
                                                  refine at_goto C 193 dX6_digest_213 (by decide) ?_
                                                  refine at_iload_n C 0 dX6_digest_193 rfl ?_
                                                  refine at_bipush C (16 : Int32) dX6_digest_194 (by decide) ?_
                                                  refine at_icmp_ge C 216 dX6_digest_196 (by decide) (fun c1042 => absurd c1042 (iv_xle (iv_c (c := 16) (x := (16 : Int32)) (by decide)) (iv_add (iv_add (iv_add (iv_add (iv_add (iv_add (iv_add (iv_add (iv_add (iv_add (iv_add (iv_add (iv_c (c := 0) (x := (0 : Int32)) (by decide)) (iv_c (c := 1) (x := (1 : Int32)) (by decide)) (by decide) (by decide)) (iv_c (c := 1) (x := (1 : Int32)) (by decide)) (by decide) (by decide)) (iv_c (c := 1) (x := (1 : Int32)) (by decide)) (by decide) (by decide)) (iv_c (c := 1) (x := (1 : Int32)) (by decide)) (by decide) (by decide)) (iv_c (c := 1) (x := (1 : Int32)) (by decide)) (by decide) (by decide)) (iv_c (c := 1) (x := (1 : Int32)) (by decide)) (by decide) (by decide)) (iv_c (c := 1) (x := (1 : Int32)) (by decide)) (by decide) (by decide)) (iv_c (c := 1) (x := (1 : Int32)) (by decide)) (by decide) (by decide)) (iv_c (c := 1) (x := (1 : Int32)) (by decide)) (by decide) (by decide)) (iv_c (c := 1) (x := (1 : Int32)) (by decide)) (by decide) (by decide)) (iv_c (c := 1) (x := (1 : Int32)) (by decide)) (by decide) (by decide)) (iv_c (c := 1) (x := (1 : Int32)) (by decide)) (by decide) (by decide)) (by decide))) (fun c1042 => ?_)
                                                  refine at_lload_n C 1 dX6_digest_199 rfl ?_
                                                  refine at_aload_n C 2 dX6_digest_200 rfl ?_
                                                  refine gf_X6_55 C dX6_digest_201 ?_
                                                  refine at_iload_n C 0 dX6_digest_204 rfl ?_
                                                  refine at_iald C (c := 7) rfl (iv_in (n := 16) (iv_add (iv_add (iv_add (iv_add (iv_add (iv_add (iv_add (iv_add (iv_add (iv_add (iv_add (iv_add (iv_c (c := 0) (x := (0 : Int32)) (by decide)) (iv_c (c := 1) (x := (1 : Int32)) (by decide)) (by decide) (by decide)) (iv_c (c := 1) (x := (1 : Int32)) (by decide)) (by decide) (by decide)) (iv_c (c := 1) (x := (1 : Int32)) (by decide)) (by decide) (by decide)) (iv_c (c := 1) (x := (1 : Int32)) (by decide)) (by decide) (by decide)) (iv_c (c := 1) (x := (1 : Int32)) (by decide)) (by decide) (by decide)) (iv_c (c := 1) (x := (1 : Int32)) (by decide)) (by decide) (by decide)) (iv_c (c := 1) (x := (1 : Int32)) (by decide)) (by decide) (by decide)) (iv_c (c := 1) (x := (1 : Int32)) (by decide)) (by decide) (by decide)) (iv_c (c := 1) (x := (1 : Int32)) (by decide)) (by decide) (by decide)) (iv_c (c := 1) (x := (1 : Int32)) (by decide)) (by decide) (by decide)) (iv_c (c := 1) (x := (1 : Int32)) (by decide)) (by decide) (by decide)) (iv_c (c := 1) (x := (1 : Int32)) (by decide)) (by decide) (by decide)) (by decide) (by decide)) dX6_digest_205 ?_
                                                  refine at_Sl C (As := [.long lr1041, .int (ac_ga σ 7 ((((((((((((((0 : Int32) + (1 : Int32)) + (1 : Int32)) + (1 : Int32)) + (1 : Int32)) + (1 : Int32)) + (1 : Int32)) + (1 : Int32)) + (1 : Int32)) + (1 : Int32)) + (1 : Int32)) + (1 : Int32)) + (1 : Int32))).toNatClampNeg)]) (st := []) (cz_X6_mix σ lr1041 (ac_ga σ 7 ((((((((((((((0 : Int32) + (1 : Int32)) + (1 : Int32)) + (1 : Int32)) + (1 : Int32)) + (1 : Int32)) + (1 : Int32)) + (1 : Int32)) + (1 : Int32)) + (1 : Int32)) + (1 : Int32)) + (1 : Int32)) + (1 : Int32))).toNatClampNeg) hI) mb_X6_mix ml_X6_229 rfl (by decide) rfl (Nat.le_of_ble_eq_true rfl) dX6_digest_206 ?_
                                                  rintro lr1045 _ ⟨hr1044, rfl, hJ1043⟩
                                                  · show AT E 209 [(3, .int (((((((((((((0 : Int32) + (1 : Int32)) + (1 : Int32)) + (1 : Int32)) + (1 : Int32)) + (1 : Int32)) + (1 : Int32)) + (1 : Int32)) + (1 : Int32)) + (1 : Int32)) + (1 : Int32)) + (1 : Int32)) + (1 : Int32))), (1, .long lr1041), (0, .ref (e_q E 0))] [.long lr1045] σ
                                                    refine at_lstore_n C (lv' := [(1, .long lr1045), (3, .int (((((((((((((0 : Int32) + (1 : Int32)) + (1 : Int32)) + (1 : Int32)) + (1 : Int32)) + (1 : Int32)) + (1 : Int32)) + (1 : Int32)) + (1 : Int32)) + (1 : Int32)) + (1 : Int32)) + (1 : Int32)) + (1 : Int32))), (0, .ref (e_q E 0))]) dX6_digest_209 hn2 rfl ?_
                                                    refine at_iinc C (v := ((((((((((((((0 : Int32) + (1 : Int32)) + (1 : Int32)) + (1 : Int32)) + (1 : Int32)) + (1 : Int32)) + (1 : Int32)) + (1 : Int32)) + (1 : Int32)) + (1 : Int32)) + (1 : Int32)) + (1 : Int32)) + (1 : Int32)) + (1 : Int32))) (lv' := [(3, .int ((((((((((((((0 : Int32) + (1 : Int32)) + (1 : Int32)) + (1 : Int32)) + (1 : Int32)) + (1 : Int32)) + (1 : Int32)) + (1 : Int32)) + (1 : Int32)) + (1 : Int32)) + (1 : Int32)) + (1 : Int32)) + (1 : Int32)) + (1 : Int32))), (1, .long lr1045), (0, .ref (e_q E 0))]) 1 dX6_digest_210 rfl rfl hn3 rfl ?_
                                                    refine at_goto C 193 dX6_digest_213 (by decide) ?_
                                                    refine at_iload_n C 0 dX6_digest_193 rfl ?_
                                                    refine at_bipush C (16 : Int32) dX6_digest_194 (by decide) ?_
                                                    refine at_icmp_ge C 216 dX6_digest_196 (by decide) (fun c1046 => absurd c1046 (iv_xle (iv_c (c := 16) (x := (16 : Int32)) (by decide)) (iv_add (iv_add (iv_add (iv_add (iv_add (iv_add (iv_add (iv_add (iv_add (iv_add (iv_add (iv_add (iv_add (iv_c (c := 0) (x := (0 : Int32)) (by decide)) (iv_c (c := 1) (x := (1 : Int32)) (by decide)) (by decide) (by decide)) (iv_c (c := 1) (x := (1 : Int32)) (by decide)) (by decide) (by decide)) (iv_c (c := 1) (x := (1 : Int32)) (by decide)) (by decide) (by decide)) (iv_c (c := 1) (x := (1 : Int32)) (by decide)) (by decide) (by decide)) (iv_c (c := 1) (x := (1 : Int32)) (by decide)) (by decide) (by decide)) (iv_c (c := 1) (x := (1 : Int32)) (by decide)) (by decide) (by decide)) (iv_c (c := 1) (x := (1 : Int32)) (by decide)) (by decide) (by decide)) (iv_c (c := 1) (x := (1 : Int32)) (by decide)) (by decide) (by decide)) (iv_c (c := 1) (x := (1 : Int32)) (by decide)) (by decide) (by decide)) (iv_c (c := 1) (x := (1 : Int32)) (by decide)) (by decide) (by decide)) (iv_c (c := 1) (x := (1 : Int32)) (by decide)) (by decide) (by decide)) (iv_c (c := 1) (x := (1 : Int32)) (by decide)) (by decide) (by decide)) (iv_c (c := 1) (x := (1 : Int32)) (by decide)) (by decide) (by decide)) (by decide))) (fun c1046 => ?_)
                                                    refine at_lload_n C 1 dX6_digest_199 rfl ?_
                                                    refine at_aload_n C 2 dX6_digest_200 rfl ?_
                                                    refine gf_X6_55 C dX6_digest_201 ?_
                                                    refine at_iload_n C 0 dX6_digest_204 rfl ?_
                                                    refine at_iald C (c := 7) rfl (iv_in (n := 16) (iv_add (iv_add (iv_add (iv_add (iv_add (iv_add (iv_add (iv_add (iv_add (iv_add (iv_add (iv_add (iv_add (iv_c (c := 0) (x := (0 : Int32)) (by decide)) (iv_c (c := 1) (x := (1 : Int32)) (by decide)) (by decide) (by decide)) (iv_c (c := 1) (x := (1 : Int32)) (by decide)) (by decide) (by decide)) (iv_c (c := 1) (x := (1 : Int32)) (by decide)) (by decide) (by decide)) (iv_c (c := 1) (x := (1 : Int32)) (by decide)) (by decide) (by decide)) (iv_c (c := 1) (x := (1 : Int32)) (by decide)) (by decide) (by decide)) (iv_c (c := 1) (x := (1 : Int32)) (by decide)) (by decide) (by decide)) (iv_c (c := 1) (x := (1 : Int32)) (by decide)) (by decide) (by decide)) (iv_c (c := 1) (x := (1 : Int32)) (by decide)) (by decide) (by decide)) (iv_c (c := 1) (x := (1 : Int32)) (by decide)) (by decide) (by decide)) (iv_c (c := 1) (x := (1 : Int32)) (by decide)) (by decide) (by decide)) (iv_c (c := 1) (x := (1 : Int32)) (by decide)) (by decide) (by decide)) (iv_c (c := 1) (x := (1 : Int32)) (by decide)) (by decide) (by decide)) (iv_c (c := 1) (x := (1 : Int32)) (by decide)) (by decide) (by decide)) (by decide) (by decide)) dX6_digest_205 ?_
                                                    refine at_Sl C (As := [.long lr1045, .int (ac_ga σ 7 (((((((((((((((0 : Int32) + (1 : Int32)) + (1 : Int32)) + (1 : Int32)) + (1 : Int32)) + (1 : Int32)) + (1 : Int32)) + (1 : Int32)) + (1 : Int32)) + (1 : Int32)) + (1 : Int32)) + (1 : Int32)) + (1 : Int32)) + (1 : Int32))).toNatClampNeg)]) (st := []) (cz_X6_mix σ lr1045 (ac_ga σ 7 (((((((((((((((0 : Int32) + (1 : Int32)) + (1 : Int32)) + (1 : Int32)) + (1 : Int32)) + (1 : Int32)) + (1 : Int32)) + (1 : Int32)) + (1 : Int32)) + (1 : Int32)) + (1 : Int32)) + (1 : Int32)) + (1 : Int32)) + (1 : Int32))).toNatClampNeg) hI) mb_X6_mix ml_X6_229 rfl (by decide) rfl (Nat.le_of_ble_eq_true rfl) dX6_digest_206 ?_
                                                    rintro lr1049 _ ⟨hr1048, rfl, hJ1047⟩
                                                    · show AT E 209 [(3, .int ((((((((((((((0 : Int32) + (1 : Int32)) + (1 : Int32)) + (1 : Int32)) + (1 : Int32)) + (1 : Int32)) + (1 : Int32)) + (1 : Int32)) + (1 : Int32)) + (1 : Int32)) + (1 : Int32)) + (1 : Int32)) + (1 : Int32)) + (1 : Int32))), (1, .long lr1045), (0, .ref (e_q E 0))] [.long lr1049] σ
                                                      refine at_lstore_n C (lv' := [(1, .long lr1049), (3, .int ((((((((((((((0 : Int32) + (1 : Int32)) + (1 : Int32)) + (1 : Int32)) + (1 : Int32)) + (1 : Int32)) + (1 : Int32)) + (1 : Int32)) + (1 : Int32)) + (1 : Int32)) + (1 : Int32)) + (1 : Int32)) + (1 : Int32)) + (1 : Int32))), (0, .ref (e_q E 0))]) dX6_digest_209 hn2 rfl ?_
                                                      refine at_iinc C (v := (((((((((((((((0 : Int32) + (1 : Int32)) + (1 : Int32)) + (1 : Int32)) + (1 : Int32)) + (1 : Int32)) + (1 : Int32)) + (1 : Int32)) + (1 : Int32)) + (1 : Int32)) + (1 : Int32)) + (1 : Int32)) + (1 : Int32)) + (1 : Int32)) + (1 : Int32))) (lv' := [(3, .int (((((((((((((((0 : Int32) + (1 : Int32)) + (1 : Int32)) + (1 : Int32)) + (1 : Int32)) + (1 : Int32)) + (1 : Int32)) + (1 : Int32)) + (1 : Int32)) + (1 : Int32)) + (1 : Int32)) + (1 : Int32)) + (1 : Int32)) + (1 : Int32)) + (1 : Int32))), (1, .long lr1049), (0, .ref (e_q E 0))]) 1 dX6_digest_210 rfl rfl hn3 rfl ?_
                                                      refine at_goto C 193 dX6_digest_213 (by decide) ?_
                                                      refine at_iload_n C 0 dX6_digest_193 rfl ?_
                                                      refine at_bipush C (16 : Int32) dX6_digest_194 (by decide) ?_
                                                      refine at_icmp_ge C 216 dX6_digest_196 (by decide) (fun c1050 => absurd c1050 (iv_xle (iv_c (c := 16) (x := (16 : Int32)) (by decide)) (iv_add (iv_add (iv_add (iv_add (iv_add (iv_add (iv_add (iv_add (iv_add (iv_add (iv_add (iv_add (iv_add (iv_add (iv_c (c := 0) (x := (0 : Int32)) (by decide)) (iv_c (c := 1) (x := (1 : Int32)) (by decide)) (by decide) (by decide)) (iv_c (c := 1) (x := (1 : Int32)) (by decide)) (by decide) (by decide)) (iv_c (c := 1) (x := (1 : Int32)) (by decide)) (by decide) (by decide)) (iv_c (c := 1) (x := (1 : Int32)) (by decide)) (by decide) (by decide)) (iv_c (c := 1) (x := (1 : Int32)) (by decide)) (by decide) (by decide)) (iv_c (c := 1) (x := (1 : Int32)) (by decide)) (by decide) (by decide)) (iv_c (c := 1) (x := (1 : Int32)) (by decide)) (by decide) (by decide)) (iv_c (c := 1) (x := (1 : Int32)) (by decide)) (by decide) (by decide)) (iv_c (c := 1) (x := (1 : Int32)) (by decide)) (by decide) (by decide)) (iv_c (c := 1) (x := (1 : Int32)) (by decide)) (by decide) (by decide)) (iv_c (c := 1) (x := (1 : Int32)) (by decide)) (by decide) (by decide)) (iv_c (c := 1) (x := (1 : Int32)) (by decide)) (by decide) (by decide)) (iv_c (c := 1) (x := (1 : Int32)) (by decide)) (by decide) (by decide)) (iv_c (c := 1) (x := (1 : Int32)) (by decide)) (by decide) (by decide)) (by decide))) (fun c1050 => ?_)
                                                      refine at_lload_n C 1 dX6_digest_199 rfl ?_
                                                      refine at_aload_n C 2 dX6_digest_200 rfl ?_
                                                      refine gf_X6_55 C dX6_digest_201 ?_
                                                      refine at_iload_n C 0 dX6_digest_204 rfl ?_
                                                      refine at_iald C (c := 7) rfl (iv_in (n := 16) (iv_add (iv_add (iv_add (iv_add (iv_add (iv_add (iv_add (iv_add (iv_add (iv_add (iv_add (iv_add (iv_add (iv_add (iv_c (c := 0) (x := (0 : Int32)) (by decide)) (iv_c (c := 1) (x := (1 : Int32)) (by decide)) (by decide) (by decide)) (iv_c (c := 1) (x := (1 : Int32)) (by decide)) (by decide) (by decide)) (iv_c (c := 1) (x := (1 : Int32)) (by decide)) (by decide) (by decide)) (iv_c (c := 1) (x := (1 : Int32)) (by decide)) (by decide) (by decide)) (iv_c (c := 1) (x := (1 : Int32)) (by decide)) (by decide) (by decide)) (iv_c (c := 1) (x := (1 : Int32)) (by decide)) (by decide) (by decide)) (iv_c (c := 1) (x := (1 : Int32)) (by decide)) (by decide) (by decide)) (iv_c (c := 1) (x := (1 : Int32)) (by decide)) (by decide) (by decide)) (iv_c (c := 1) (x := (1 : Int32)) (by decide)) (by decide) (by decide)) (iv_c (c := 1) (x := (1 : Int32)) (by decide)) (by decide) (by decide)) (iv_c (c := 1) (x := (1 : Int32)) (by decide)) (by decide) (by decide)) (iv_c (c := 1) (x := (1 : Int32)) (by decide)) (by decide) (by decide)) (iv_c (c := 1) (x := (1 : Int32)) (by decide)) (by decide) (by decide)) (iv_c (c := 1) (x := (1 : Int32)) (by decide)) (by decide) (by decide)) (by decide) (by decide)) dX6_digest_205 ?_
                                                      refine at_Sl C (As := [.long lr1049, .int (ac_ga σ 7 ((((((((((((((((0 : Int32) + (1 : Int32)) + (1 : Int32)) + (1 : Int32)) + (1 : Int32)) + (1 : Int32)) + (1 : Int32)) + (1 : Int32)) + (1 : Int32)) + (1 : Int32)) + (1 : Int32)) + (1 : Int32)) + (1 : Int32)) + (1 : Int32)) + (1 : Int32))).toNatClampNeg)]) (st := []) (cz_X6_mix σ lr1049 (ac_ga σ 7 ((((((((((((((((0 : Int32) + (1 : Int32)) + (1 : Int32)) + (1 : Int32)) + (1 : Int32)) + (1 : Int32)) + (1 : Int32)) + (1 : Int32)) + (1 : Int32)) + (1 : Int32)) + (1 : Int32)) + (1 : Int32)) + (1 : Int32)) + (1 : Int32)) + (1 : Int32))).toNatClampNeg) hI) mb_X6_mix ml_X6_229 rfl (by decide) rfl (Nat.le_of_ble_eq_true rfl) dX6_digest_206 ?_
                                                      rintro lr1053 _ ⟨hr1052, rfl, hJ1051⟩
                                                      · show AT E 209 [(3, .int (((((((((((((((0 : Int32) + (1 : Int32)) + (1 : Int32)) + (1 : Int32)) + (1 : Int32)) + (1 : Int32)) + (1 : Int32)) + (1 : Int32)) + (1 : Int32)) + (1 : Int32)) + (1 : Int32)) + (1 : Int32)) + (1 : Int32)) + (1 : Int32)) + (1 : Int32))), (1, .long lr1049), (0, .ref (e_q E 0))] [.long lr1053] σ
                                                        refine at_lstore_n C (lv' := [(1, .long lr1053), (3, .int (((((((((((((((0 : Int32) + (1 : Int32)) + (1 : Int32)) + (1 : Int32)) + (1 : Int32)) + (1 : Int32)) + (1 : Int32)) + (1 : Int32)) + (1 : Int32)) + (1 : Int32)) + (1 : Int32)) + (1 : Int32)) + (1 : Int32)) + (1 : Int32)) + (1 : Int32))), (0, .ref (e_q E 0))]) dX6_digest_209 hn2 rfl ?_
                                                        refine at_iinc C (v := ((((((((((((((((0 : Int32) + (1 : Int32)) + (1 : Int32)) + (1 : Int32)) + (1 : Int32)) + (1 : Int32)) + (1 : Int32)) + (1 : Int32)) + (1 : Int32)) + (1 : Int32)) + (1 : Int32)) + (1 : Int32)) + (1 : Int32)) + (1 : Int32)) + (1 : Int32)) + (1 : Int32))) (lv' := [(3, .int ((((((((((((((((0 : Int32) + (1 : Int32)) + (1 : Int32)) + (1 : Int32)) + (1 : Int32)) + (1 : Int32)) + (1 : Int32)) + (1 : Int32)) + (1 : Int32)) + (1 : Int32)) + (1 : Int32)) + (1 : Int32)) + (1 : Int32)) + (1 : Int32)) + (1 : Int32)) + (1 : Int32))), (1, .long lr1053), (0, .ref (e_q E 0))]) 1 dX6_digest_210 rfl rfl hn3 rfl ?_
                                                        refine at_goto C 193 dX6_digest_213 (by decide) ?_
                                                        refine at_iload_n C 0 dX6_digest_193 rfl ?_
                                                        refine at_bipush C (16 : Int32) dX6_digest_194 (by decide) ?_
                                                        refine at_icmp_ge C 216 dX6_digest_196 (by decide) (fun c1054 => absurd c1054 (iv_xle (iv_c (c := 16) (x := (16 : Int32)) (by decide)) (iv_add (iv_add (iv_add (iv_add (iv_add (iv_add (iv_add (iv_add (iv_add (iv_add (iv_add (iv_add (iv_add (iv_add (iv_add (iv_c (c := 0) (x := (0 : Int32)) (by decide)) (iv_c (c := 1) (x := (1 : Int32)) (by decide)) (by decide) (by decide)) (iv_c (c := 1) (x := (1 : Int32)) (by decide)) (by decide) (by decide)) (iv_c (c := 1) (x := (1 : Int32)) (by decide)) (by decide) (by decide)) (iv_c (c := 1) (x := (1 : Int32)) (by decide)) (by decide) (by decide)) (iv_c (c := 1) (x := (1 : Int32)) (by decide)) (by decide) (by decide)) (iv_c (c := 1) (x := (1 : Int32)) (by decide)) (by decide) (by decide)) (iv_c (c := 1) (x := (1 : Int32)) (by decide)) (by decide) (by decide)) (iv_c (c := 1) (x := (1 : Int32)) (by decide)) (by decide) (by decide)) (iv_c (c := 1) (x := (1 : Int32)) (by decide)) (by decide) (by decide)) (iv_c (c := 1) (x := (1 : Int32)) (by decide)) (by decide) (by decide)) (iv_c (c := 1) (x := (1 : Int32)) (by decide)) (by decide) (by decide)) (iv_c (c := 1) (x := (1 : Int32)) (by decide)) (by decide) (by decide)) (iv_c (c := 1) (x := (1 : Int32)) (by decide)) (by decide) (by decide)) (iv_c (c := 1) (x := (1 : Int32)) (by decide)) (by decide) (by decide)) (iv_c (c := 1) (x := (1 : Int32)) (by decide)) (by decide) (by decide)) (by decide))) (fun c1054 => ?_)
                                                        refine at_lload_n C 1 dX6_digest_199 rfl ?_
                                                        refine at_aload_n C 2 dX6_digest_200 rfl ?_
                                                        refine gf_X6_55 C dX6_digest_201 ?_
                                                        refine at_iload_n C 0 dX6_digest_204 rfl ?_
                                                        refine at_iald C (c := 7) rfl (iv_in (n := 16) (iv_add (iv_add (iv_add (iv_add (iv_add (iv_add (iv_add (iv_add (iv_add (iv_add (iv_add (iv_add (iv_add (iv_add (iv_add (iv_c (c := 0) (x := (0 : Int32)) (by decide)) (iv_c (c := 1) (x := (1 : Int32)) (by decide)) (by decide) (by decide)) (iv_c (c := 1) (x := (1 : Int32)) (by decide)) (by decide) (by decide)) (iv_c (c := 1) (x := (1 : Int32)) (by decide)) (by decide) (by decide)) (iv_c (c := 1) (x := (1 : Int32)) (by decide)) (by decide) (by decide)) (iv_c (c := 1) (x := (1 : Int32)) (by decide)) (by decide) (by decide)) (iv_c (c := 1) (x := (1 : Int32)) (by decide)) (by decide) (by decide)) (iv_c (c := 1) (x := (1 : Int32)) (by decide)) (by decide) (by decide)) (iv_c (c := 1) (x := (1 : Int32)) (by decide)) (by decide) (by decide)) (iv_c (c := 1) (x := (1 : Int32)) (by decide)) (by decide) (by decide)) (iv_c (c := 1) (x := (1 : Int32)) (by decide)) (by decide) (by decide)) (iv_c (c := 1) (x := (1 : Int32)) (by decide)) (by decide) (by decide)) (iv_c (c := 1) (x := (1 : Int32)) (by decide)) (by decide) (by decide)) (iv_c (c := 1) (x := (1 : Int32)) (by decide)) (by decide) (by decide)) (iv_c (c := 1) (x := (1 : Int32)) (by decide)) (by decide) (by decide)) (iv_c (c := 1) (x := (1 : Int32)) (by decide)) (by decide) (by decide)) (by decide) (by decide)) dX6_digest_205 ?_
                                                        refine at_Sl C (As := [.long lr1053, .int (ac_ga σ 7 (((((((((((((((((0 : Int32) + (1 : Int32)) + (1 : Int32)) + (1 : Int32)) + (1 : Int32)) + (1 : Int32)) + (1 : Int32)) + (1 : Int32)) + (1 : Int32)) + (1 : Int32)) + (1 : Int32)) + (1 : Int32)) + (1 : Int32)) + (1 : Int32)) + (1 : Int32)) + (1 : Int32))).toNatClampNeg)]) (st := []) (cz_X6_mix σ lr1053 (ac_ga σ 7 (((((((((((((((((0 : Int32) + (1 : Int32)) + (1 : Int32)) + (1 : Int32)) + (1 : Int32)) + (1 : Int32)) + (1 : Int32)) + (1 : Int32)) + (1 : Int32)) + (1 : Int32)) + (1 : Int32)) + (1 : Int32)) + (1 : Int32)) + (1 : Int32)) + (1 : Int32)) + (1 : Int32))).toNatClampNeg) hI) mb_X6_mix ml_X6_229 rfl (by decide) rfl (Nat.le_of_ble_eq_true rfl) dX6_digest_206 ?_
                                                        rintro lr1057 _ ⟨hr1056, rfl, hJ1055⟩
                                                        · show AT E 209 [(3, .int ((((((((((((((((0 : Int32) + (1 : Int32)) + (1 : Int32)) + (1 : Int32)) + (1 : Int32)) + (1 : Int32)) + (1 : Int32)) + (1 : Int32)) + (1 : Int32)) + (1 : Int32)) + (1 : Int32)) + (1 : Int32)) + (1 : Int32)) + (1 : Int32)) + (1 : Int32)) + (1 : Int32))), (1, .long lr1053), (0, .ref (e_q E 0))] [.long lr1057] σ
                                                          refine at_lstore_n C (lv' := [(1, .long lr1057), (3, .int ((((((((((((((((0 : Int32) + (1 : Int32)) + (1 : Int32)) + (1 : Int32)) + (1 : Int32)) + (1 : Int32)) + (1 : Int32)) + (1 : Int32)) + (1 : Int32)) + (1 : Int32)) + (1 : Int32)) + (1 : Int32)) + (1 : Int32)) + (1 : Int32)) + (1 : Int32)) + (1 : Int32))), (0, .ref (e_q E 0))]) dX6_digest_209 hn2 rfl ?_
                                                          refine at_iinc C (v := (((((((((((((((((0 : Int32) + (1 : Int32)) + (1 : Int32)) + (1 : Int32)) + (1 : Int32)) + (1 : Int32)) + (1 : Int32)) + (1 : Int32)) + (1 : Int32)) + (1 : Int32)) + (1 : Int32)) + (1 : Int32)) + (1 : Int32)) + (1 : Int32)) + (1 : Int32)) + (1 : Int32)) + (1 : Int32))) (lv' := [(3, .int (((((((((((((((((0 : Int32) + (1 : Int32)) + (1 : Int32)) + (1 : Int32)) + (1 : Int32)) + (1 : Int32)) + (1 : Int32)) + (1 : Int32)) + (1 : Int32)) + (1 : Int32)) + (1 : Int32)) + (1 : Int32)) + (1 : Int32)) + (1 : Int32)) + (1 : Int32)) + (1 : Int32)) + (1 : Int32))), (1, .long lr1057), (0, .ref (e_q E 0))]) 1 dX6_digest_210 rfl rfl hn3 rfl ?_
                                                          refine at_goto C 193 dX6_digest_213 (by decide) ?_
                                                          refine at_iload_n C 0 dX6_digest_193 rfl ?_
                                                          refine at_bipush C (16 : Int32) dX6_digest_194 (by decide) ?_
                                                          refine at_icmp_ge C 216 dX6_digest_196 (by decide) (fun c1058 => ?_) (fun c1058 => absurd (Int32.not_le.mp c1058) (iv_xlt (iv_add (iv_add (iv_add (iv_add (iv_add (iv_add (iv_add (iv_add (iv_add (iv_add (iv_add (iv_add (iv_add (iv_add (iv_add (iv_add (iv_c (c := 0) (x := (0 : Int32)) (by decide)) (iv_c (c := 1) (x := (1 : Int32)) (by decide)) (by decide) (by decide)) (iv_c (c := 1) (x := (1 : Int32)) (by decide)) (by decide) (by decide)) (iv_c (c := 1) (x := (1 : Int32)) (by decide)) (by decide) (by decide)) (iv_c (c := 1) (x := (1 : Int32)) (by decide)) (by decide) (by decide)) (iv_c (c := 1) (x := (1 : Int32)) (by decide)) (by decide) (by decide)) (iv_c (c := 1) (x := (1 : Int32)) (by decide)) (by decide) (by decide)) (iv_c (c := 1) (x := (1 : Int32)) (by decide)) (by decide) (by decide)) (iv_c (c := 1) (x := (1 : Int32)) (by decide)) (by decide) (by decide)) (iv_c (c := 1) (x := (1 : Int32)) (by decide)) (by decide) (by decide)) (iv_c (c := 1) (x := (1 : Int32)) (by decide)) (by decide) (by decide)) (iv_c (c := 1) (x := (1 : Int32)) (by decide)) (by decide) (by decide)) (iv_c (c := 1) (x := (1 : Int32)) (by decide)) (by decide) (by decide)) (iv_c (c := 1) (x := (1 : Int32)) (by decide)) (by decide) (by decide)) (iv_c (c := 1) (x := (1 : Int32)) (by decide)) (by decide) (by decide)) (iv_c (c := 1) (x := (1 : Int32)) (by decide)) (by decide) (by decide)) (iv_c (c := 1) (x := (1 : Int32)) (by decide)) (by decide) (by decide)) (iv_c (c := 16) (x := (16 : Int32)) (by decide)) (by decide)))
                                                          refine at_aload_n C 2 dX6_digest_216 rfl ?_
                                                          refine gf_X6_37 C dX6_digest_217 ?_
                                                          refine at_iconst C (-1 : Int32) dX6_digest_220 (by decide) ?_
                                                          refine at_iconst C (0 : Int32) dX6_digest_221 (by decide) ?_
                                                          refine at_Vv C (As := [.int (-1 : Int32), .int (0 : Int32)]) (st := []) (b := 4) (ci := 1) (cz_X1_letFall σ (-1 : Int32) (0 : Int32) hI (show iv 0 0 (ac_gi σ 0) from gf0) (show iv 0 0 (ac_gi σ 4) from gf4)) mb_X1_letFall ml_X6_133 rfl rfl rfl (by decide) rfl (Nat.le_of_ble_eq_true rfl) dX6_digest_222 ?_
                                                          rintro _ ⟨rfl, hJ1059⟩
                                                          · show AT E 225 [(3, .int (((((((((((((((((0 : Int32) + (1 : Int32)) + (1 : Int32)) + (1 : Int32)) + (1 : Int32)) + (1 : Int32)) + (1 : Int32)) + (1 : Int32)) + (1 : Int32)) + (1 : Int32)) + (1 : Int32)) + (1 : Int32)) + (1 : Int32)) + (1 : Int32)) + (1 : Int32)) + (1 : Int32)) + (1 : Int32))), (1, .long lr1057), (0, .ref (e_q E 0))] [] (ac_si (ac_si (ac_si σ 7 (0 : Int32)) 8 (0 : Int32)) 9 (0 : Int32))
                                                            refine at_iconst C (0 : Int32) dX6_digest_225 (by decide) ?_
                                                            refine at_istore_n C (lv' := [(3, .int (0 : Int32)), (1, .long lr1057), (0, .ref (e_q E 0))]) dX6_digest_226 hn3 rfl ?_
                                                            refine at_iload_n C 0 dX6_digest_227 rfl ?_
                                                            refine at_iconst C (3 : Int32) dX6_digest_228 (by decide) ?_
                                                            refine at_icmp_gt C 251 dX6_digest_229 (by decide) (fun c1060 => absurd c1060 (iv_xlt (iv_c (c := 3) (x := (3 : Int32)) (by decide)) (iv_c (c := 0) (x := (0 : Int32)) (by decide)) (by decide))) (fun c1060 => ?_)
                                                            refine at_lload_n C 1 dX6_digest_232 rfl ?_
                                                            refine at_aload_n C 2 dX6_digest_233 rfl ?_
                                                            refine gf_X6_37 C dX6_digest_234 ?_
                                                            refine at_iload_n C 0 dX6_digest_237 rfl ?_
                                                            refine at_Vi C (As := [.int (0 : Int32)]) (st := [.long lr1057]) (b := 4) (ci := 1) (cz_X1_ending (ac_si (ac_si (ac_si σ 7 (0 : Int32)) 8 (0 : Int32)) 9 (0 : Int32)) (0 : Int32) hJ1059 (show iv 0 0 (ac_gi σ 0) from gf0) (show iv 0 0 (0 : Int32) from (iv_c (c := 0) (x := (0 : Int32)) (by decide))) (show iv 0 0 (0 : Int32) from (iv_c (c := 0) (x := (0 : Int32)) (by decide))) (show iv 0 0 (0 : Int32) from (iv_c (c := 0) (x := (0 : Int32)) (by decide)))) mb_X1_ending ml_X6_137 rfl rfl rfl (by decide) rfl (Nat.le_of_ble_eq_true rfl) dX6_digest_238 ?_
                                                            rintro _ _ ⟨rfl, rfl, hJ1061⟩
                                                            · show AT E 241 [(3, .int (0 : Int32)), (1, .long lr1057), (0, .ref (e_q E 0))] [.int (0 : Int32), .long lr1057] (ac_si (ac_si (ac_si σ 7 (0 : Int32)) 8 (0 : Int32)) 9 (0 : Int32))
                                                              refine at_Sl C (As := [.long lr1057, .int (0 : Int32)]) (st := []) (cz_X6_mix (ac_si (ac_si (ac_si σ 7 (0 : Int32)) 8 (0 : Int32)) 9 (0 : Int32)) lr1057 (0 : Int32) hJ1059) mb_X6_mix ml_X6_229 rfl (by decide) rfl (Nat.le_of_ble_eq_true rfl) dX6_digest_241 ?_
                                                              rintro lr1064 _ ⟨hr1063, rfl, hJ1062⟩
                                                              · show AT E 244 [(3, .int (0 : Int32)), (1, .long lr1057), (0, .ref (e_q E 0))] [.long lr1064] (ac_si (ac_si (ac_si σ 7 (0 : Int32)) 8 (0 : Int32)) 9 (0 : Int32))
                                                                refine at_lstore_n C (lv' := [(1, .long lr1064), (3, .int (0 : Int32)), (0, .ref (e_q E 0))]) dX6_digest_244 hn2 rfl ?_
                                                                refine at_iinc C (v := ((0 : Int32) + (1 : Int32))) (lv' := [(3, .int ((0 : Int32) + (1 : Int32))), (1, .long lr1064), (0, .ref (e_q E 0))]) 1 dX6_digest_245 rfl rfl hn3 rfl ?_
                                                                refine at_goto C 227 dX6_digest_248 (by decide) ?_
                                                                refine at_iload_n C 0 dX6_digest_227 rfl ?_
                                                                refine at_iconst C (3 : Int32) dX6_digest_228 (by decide) ?_
                                                                refine at_icmp_gt C 251 dX6_digest_229 (by decide) (fun c1065 => absurd c1065 (iv_xlt (iv_c (c := 3) (x := (3 : Int32)) (by decide)) (iv_add (iv_c (c := 0) (x := (0 : Int32)) (by decide)) (iv_c (c := 1) (x := (1 : Int32)) (by decide)) (by decide) (by decide)) (by decide))) (fun c1065 => ?_)
                                                                refine at_lload_n C 1 dX6_digest_232 rfl ?_
                                                                refine at_aload_n C 2 dX6_digest_233 rfl ?_
                                                                refine gf_X6_37 C dX6_digest_234 ?_
                                                                refine at_iload_n C 0 dX6_digest_237 rfl ?_
                                                                refine at_Vi C (As := [.int ((0 : Int32) + (1 : Int32))]) (st := [.long lr1064]) (b := 4) (ci := 1) (cz_X1_ending (ac_si (ac_si (ac_si σ 7 (0 : Int32)) 8 (0 : Int32)) 9 (0 : Int32)) ((0 : Int32) + (1 : Int32)) hJ1059 (show iv 0 0 (ac_gi σ 0) from gf0) (show iv 0 0 (0 : Int32) from (iv_c (c := 0) (x := (0 : Int32)) (by decide))) (show iv 0 0 (0 : Int32) from (iv_c (c := 0) (x := (0 : Int32)) (by decide))) (show iv 0 0 (0 : Int32) from (iv_c (c := 0) (x := (0 : Int32)) (by decide)))) mb_X1_ending ml_X6_137 rfl rfl rfl (by decide) rfl (Nat.le_of_ble_eq_true rfl) dX6_digest_238 ?_
                                                                rintro _ _ ⟨rfl, rfl, hJ1066⟩
                                                                · show AT E 241 [(3, .int ((0 : Int32) + (1 : Int32))), (1, .long lr1064), (0, .ref (e_q E 0))] [.int (0 : Int32), .long lr1064] (ac_si (ac_si (ac_si σ 7 (0 : Int32)) 8 (0 : Int32)) 9 (0 : Int32))
                                                                  refine at_Sl C (As := [.long lr1064, .int (0 : Int32)]) (st := []) (cz_X6_mix (ac_si (ac_si (ac_si σ 7 (0 : Int32)) 8 (0 : Int32)) 9 (0 : Int32)) lr1064 (0 : Int32) hJ1059) mb_X6_mix ml_X6_229 rfl (by decide) rfl (Nat.le_of_ble_eq_true rfl) dX6_digest_241 ?_
                                                                  rintro lr1069 _ ⟨hr1068, rfl, hJ1067⟩
                                                                  · show AT E 244 [(3, .int ((0 : Int32) + (1 : Int32))), (1, .long lr1064), (0, .ref (e_q E 0))] [.long lr1069] (ac_si (ac_si (ac_si σ 7 (0 : Int32)) 8 (0 : Int32)) 9 (0 : Int32))
                                                                    refine at_lstore_n C (lv' := [(1, .long lr1069), (3, .int ((0 : Int32) + (1 : Int32))), (0, .ref (e_q E 0))]) dX6_digest_244 hn2 rfl ?_
                                                                    refine at_iinc C (v := (((0 : Int32) + (1 : Int32)) + (1 : Int32))) (lv' := [(3, .int (((0 : Int32) + (1 : Int32)) + (1 : Int32))), (1, .long lr1069), (0, .ref (e_q E 0))]) 1 dX6_digest_245 rfl rfl hn3 rfl ?_
                                                                    refine at_goto C 227 dX6_digest_248 (by decide) ?_
                                                                    refine at_iload_n C 0 dX6_digest_227 rfl ?_
                                                                    refine at_iconst C (3 : Int32) dX6_digest_228 (by decide) ?_
                                                                    refine at_icmp_gt C 251 dX6_digest_229 (by decide) (fun c1070 => absurd c1070 (iv_xlt (iv_c (c := 3) (x := (3 : Int32)) (by decide)) (iv_add (iv_add (iv_c (c := 0) (x := (0 : Int32)) (by decide)) (iv_c (c := 1) (x := (1 : Int32)) (by decide)) (by decide) (by decide)) (iv_c (c := 1) (x := (1 : Int32)) (by decide)) (by decide) (by decide)) (by decide))) (fun c1070 => ?_)
                                                                    refine at_lload_n C 1 dX6_digest_232 rfl ?_
                                                                    refine at_aload_n C 2 dX6_digest_233 rfl ?_
                                                                    refine gf_X6_37 C dX6_digest_234 ?_
                                                                    refine at_iload_n C 0 dX6_digest_237 rfl ?_
                                                                    refine at_Vi C (As := [.int (((0 : Int32) + (1 : Int32)) + (1 : Int32))]) (st := [.long lr1069]) (b := 4) (ci := 1) (cz_X1_ending (ac_si (ac_si (ac_si σ 7 (0 : Int32)) 8 (0 : Int32)) 9 (0 : Int32)) (((0 : Int32) + (1 : Int32)) + (1 : Int32)) hJ1059 (show iv 0 0 (ac_gi σ 0) from gf0) (show iv 0 0 (0 : Int32) from (iv_c (c := 0) (x := (0 : Int32)) (by decide))) (show iv 0 0 (0 : Int32) from (iv_c (c := 0) (x := (0 : Int32)) (by decide))) (show iv 0 0 (0 : Int32) from (iv_c (c := 0) (x := (0 : Int32)) (by decide)))) mb_X1_ending ml_X6_137 rfl rfl rfl (by decide) rfl (Nat.le_of_ble_eq_true rfl) dX6_digest_238 ?_
                                                                    rintro _ _ ⟨rfl, rfl, hJ1071⟩
                                                                    · show AT E 241 [(3, .int (((0 : Int32) + (1 : Int32)) + (1 : Int32))), (1, .long lr1069), (0, .ref (e_q E 0))] [.int (0 : Int32), .long lr1069] (ac_si (ac_si (ac_si σ 7 (0 : Int32)) 8 (0 : Int32)) 9 (0 : Int32))
                                                                      refine at_Sl C (As := [.long lr1069, .int (0 : Int32)]) (st := []) (cz_X6_mix (ac_si (ac_si (ac_si σ 7 (0 : Int32)) 8 (0 : Int32)) 9 (0 : Int32)) lr1069 (0 : Int32) hJ1059) mb_X6_mix ml_X6_229 rfl (by decide) rfl (Nat.le_of_ble_eq_true rfl) dX6_digest_241 ?_
                                                                      rintro lr1074 _ ⟨hr1073, rfl, hJ1072⟩
                                                                      · show AT E 244 [(3, .int (((0 : Int32) + (1 : Int32)) + (1 : Int32))), (1, .long lr1069), (0, .ref (e_q E 0))] [.long lr1074] (ac_si (ac_si (ac_si σ 7 (0 : Int32)) 8 (0 : Int32)) 9 (0 : Int32))
                                                                        refine at_lstore_n C (lv' := [(1, .long lr1074), (3, .int (((0 : Int32) + (1 : Int32)) + (1 : Int32))), (0, .ref (e_q E 0))]) dX6_digest_244 hn2 rfl ?_
                                                                        refine at_iinc C (v := ((((0 : Int32) + (1 : Int32)) + (1 : Int32)) + (1 : Int32))) (lv' := [(3, .int ((((0 : Int32) + (1 : Int32)) + (1 : Int32)) + (1 : Int32))), (1, .long lr1074), (0, .ref (e_q E 0))]) 1 dX6_digest_245 rfl rfl hn3 rfl ?_
                                                                        refine at_goto C 227 dX6_digest_248 (by decide) ?_
                                                                        refine at_iload_n C 0 dX6_digest_227 rfl ?_
                                                                        refine at_iconst C (3 : Int32) dX6_digest_228 (by decide) ?_
                                                                        refine at_icmp_gt C 251 dX6_digest_229 (by decide) (fun c1075 => absurd c1075 (iv_xlt (iv_c (c := 3) (x := (3 : Int32)) (by decide)) (iv_add (iv_add (iv_add (iv_c (c := 0) (x := (0 : Int32)) (by decide)) (iv_c (c := 1) (x := (1 : Int32)) (by decide)) (by decide) (by decide)) (iv_c (c := 1) (x := (1 : Int32)) (by decide)) (by decide) (by decide)) (iv_c (c := 1) (x := (1 : Int32)) (by decide)) (by decide) (by decide)) (by decide))) (fun c1075 => ?_)
                                                                        refine at_lload_n C 1 dX6_digest_232 rfl ?_
                                                                        refine at_aload_n C 2 dX6_digest_233 rfl ?_
                                                                        refine gf_X6_37 C dX6_digest_234 ?_
                                                                        refine at_iload_n C 0 dX6_digest_237 rfl ?_
                                                                        refine at_Vi C (As := [.int ((((0 : Int32) + (1 : Int32)) + (1 : Int32)) + (1 : Int32))]) (st := [.long lr1074]) (b := 4) (ci := 1) (cz_X1_ending (ac_si (ac_si (ac_si σ 7 (0 : Int32)) 8 (0 : Int32)) 9 (0 : Int32)) ((((0 : Int32) + (1 : Int32)) + (1 : Int32)) + (1 : Int32)) hJ1059 (show iv 0 0 (ac_gi σ 0) from gf0) (show iv 0 0 (0 : Int32) from (iv_c (c := 0) (x := (0 : Int32)) (by decide))) (show iv 0 0 (0 : Int32) from (iv_c (c := 0) (x := (0 : Int32)) (by decide))) (show iv 0 0 (0 : Int32) from (iv_c (c := 0) (x := (0 : Int32)) (by decide)))) mb_X1_ending ml_X6_137 rfl rfl rfl (by decide) rfl (Nat.le_of_ble_eq_true rfl) dX6_digest_238 ?_
                                                                        rintro _ _ ⟨rfl, rfl, hJ1076⟩
                                                                        · show AT E 241 [(3, .int ((((0 : Int32) + (1 : Int32)) + (1 : Int32)) + (1 : Int32))), (1, .long lr1074), (0, .ref (e_q E 0))] [.int (0 : Int32), .long lr1074] (ac_si (ac_si (ac_si σ 7 (0 : Int32)) 8 (0 : Int32)) 9 (0 : Int32))
                                                                          refine at_Sl C (As := [.long lr1074, .int (0 : Int32)]) (st := []) (cz_X6_mix (ac_si (ac_si (ac_si σ 7 (0 : Int32)) 8 (0 : Int32)) 9 (0 : Int32)) lr1074 (0 : Int32) hJ1059) mb_X6_mix ml_X6_229 rfl (by decide) rfl (Nat.le_of_ble_eq_true rfl) dX6_digest_241 ?_
                                                                          rintro lr1079 _ ⟨hr1078, rfl, hJ1077⟩
                                                                          · show AT E 244 [(3, .int ((((0 : Int32) + (1 : Int32)) + (1 : Int32)) + (1 : Int32))), (1, .long lr1074), (0, .ref (e_q E 0))] [.long lr1079] (ac_si (ac_si (ac_si σ 7 (0 : Int32)) 8 (0 : Int32)) 9 (0 : Int32))
                                                                            refine at_lstore_n C (lv' := [(1, .long lr1079), (3, .int ((((0 : Int32) + (1 : Int32)) + (1 : Int32)) + (1 : Int32))), (0, .ref (e_q E 0))]) dX6_digest_244 hn2 rfl ?_
                                                                            refine at_iinc C (v := (((((0 : Int32) + (1 : Int32)) + (1 : Int32)) + (1 : Int32)) + (1 : Int32))) (lv' := [(3, .int (((((0 : Int32) + (1 : Int32)) + (1 : Int32)) + (1 : Int32)) + (1 : Int32))), (1, .long lr1079), (0, .ref (e_q E 0))]) 1 dX6_digest_245 rfl rfl hn3 rfl ?_
                                                                            refine at_goto C 227 dX6_digest_248 (by decide) ?_
                                                                            refine at_iload_n C 0 dX6_digest_227 rfl ?_
                                                                            refine at_iconst C (3 : Int32) dX6_digest_228 (by decide) ?_
                                                                            refine at_icmp_gt C 251 dX6_digest_229 (by decide) (fun c1080 => ?_) (fun c1080 => absurd (Int32.not_lt.mp c1080) (iv_xle (iv_add (iv_add (iv_add (iv_add (iv_c (c := 0) (x := (0 : Int32)) (by decide)) (iv_c (c := 1) (x := (1 : Int32)) (by decide)) (by decide) (by decide)) (iv_c (c := 1) (x := (1 : Int32)) (by decide)) (by decide) (by decide)) (iv_c (c := 1) (x := (1 : Int32)) (by decide)) (by decide) (by decide)) (iv_c (c := 1) (x := (1 : Int32)) (by decide)) (by decide) (by decide)) (iv_c (c := 3) (x := (3 : Int32)) (by decide)) (by decide)))
                                                                            refine at_lload_n C 1 dX6_digest_251 rfl ?_
                                                                            exact hR _ _ _ _ dX6_digest_252 ⟨(by rw [hr1078, hr1073, hr1068, hr1063, hr1056, hr1052, hr1048, hr1044, hr1040, hr1036, hr1032, hr1028, hr1024, hr1020, hr1016, hr1012, hr1008, hr1004, hr1000, hr996, hr989, hr986, hr983, hr980, hr976, hr968, hr960, hr952]), rfl, hJ1059⟩
