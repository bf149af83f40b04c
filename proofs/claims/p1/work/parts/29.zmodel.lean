set_option maxHeartbeats 4000000 in
set_option maxRecDepth 100000 in
theorem cz_X7_layRow (σ : SS) (x1 : Int32) (hI : Inv σ) (gf15 : iv 0 0 (ac_gi σ 15)) : ConV yX7_layRow cX7_layRow 3 none 0 (some 30) [.int x1] σ (fun σ' => ((ac_si σ 18 (0 : Int32)) = σ' ∧ Inv σ')) := by
  refine conV_of (by decide) (fun q => Nat.le_of_ble_eq_true rfl) (fun E C en hR => ?_)
  have hn2 : 2 < e_n E := by rw [en]; decide
  refine at_aload_n C 0 dX7_layRow_0 rfl ?_
  refine at_iconst C (0 : Int32) dX7_layRow_1 (by decide) ?_
  refine pf_X7_106 C dX7_layRow_2 ?_
  have hJ15 := Inv.si (k := 18) hI (iv_wk (iv_c (c := 0) (x := (0 : Int32)) (by decide)) (by decide) (by decide) : iv 0 10 (0 : Int32))
  refine at_iconst C (0 : Int32) dX7_layRow_5 (by decide) ?_
  refine at_istore_n C (lv' := [(2, .int (0 : Int32)), (0, .ref (e_q E 30)), (1, .int x1)]) dX7_layRow_6 hn2 rfl ?_
  refine at_iload_n C 0 dX7_layRow_7 rfl ?_
  refine at_aload_n C 1 dX7_layRow_8 rfl ?_
  refine gf_X7_87 C dX7_layRow_9 ?_
  show AT E 12 [(2, .int (0 : Int32)), (0, .ref (e_q E 30)), (1, .int x1)] [.int (ac_gi σ 15), .int (0 : Int32)] (ac_si σ 18 (0 : Int32))
  refine at_icmp_ge C 50 dX7_layRow_12 (by decide) (fun c16 => ?_) (fun c16 => absurd (Int32.not_le.mp c16) (iv_xlt (iv_c (c := 0) (x := (0 : Int32)) (by decide)) gf15 (by decide)))
  exact hR _ _ _ dX7_layRow_50 ⟨rfl, hJ15⟩
set_option maxHeartbeats 4000000 in
set_option maxRecDepth 100000 in
theorem cz_X7_search (σ : SS) (x1 : Int32) (hI : Inv σ) (gf15 : iv 0 0 (ac_gi σ 15)) : ConI yX7_search cX7_search 3 (some .int) 2 (some 30) [.int x1] σ (fun r σ' => (r = (1 : Int32) ∧ (ac_si (ac_si σ 18 (0 : Int32)) 19 (0 : Int32)) = σ' ∧ Inv σ')) := by
  refine conI_of (by decide) (fun q => Nat.le_of_ble_eq_true rfl) (fun E C en hR => ?_)
  have hn2 : 2 < e_n E := by rw [en]; decide
  refine at_aload_n C 0 dX7_search_0 rfl ?_
  refine at_iload_n C 1 dX7_search_1 rfl ?_
  refine at_Vv C (As := [.int x1]) (st := []) (b := 30) (ci := 7) (cz_X7_layRow σ x1 hI (show iv 0 0 (ac_gi σ 15) from gf15)) mb_X7_layRow ml_X7_113 rfl rfl rfl (by decide) rfl (Nat.le_of_ble_eq_true rfl) dX7_search_2 ?_
  rintro _ ⟨rfl, hJ71⟩
  · show AT E 5 [(0, .ref (e_q E 30)), (1, .int x1)] [] (ac_si σ 18 (0 : Int32))
    refine at_aload_n C 0 dX7_search_5 rfl ?_
    refine at_iconst C (0 : Int32) dX7_search_6 (by decide) ?_
    refine pf_X7_117 C dX7_search_7 ?_
    have hJ72 := Inv.si (k := 19) hJ71 (iv_wk (iv_c (c := 0) (x := (0 : Int32)) (by decide)) (by decide) (by decide) : iv (-2147483648) 2147483647 (0 : Int32))
    refine at_iconst C (0 : Int32) dX7_search_10 (by decide) ?_
    refine at_istore_n C (lv' := [(2, .int (0 : Int32)), (0, .ref (e_q E 30)), (1, .int x1)]) dX7_search_11 hn2 rfl ?_
    refine at_aload_n C 1 dX7_search_12 rfl ?_
    refine gf_X7_106 C dX7_search_13 ?_
    show AT E 16 [(2, .int (0 : Int32)), (0, .ref (e_q E 30)), (1, .int x1)] [.int (0 : Int32)] (ac_si (ac_si σ 18 (0 : Int32)) 19 (0 : Int32))
    refine at_if_le C 26 dX7_search_16 (by decide) (fun c73 => ?_) (fun c73 => absurd (Int32.not_le.mp c73) (iv_xlt (iv_c (c := 0) (x := (0 : Int32)) (by decide)) (iv_c (c := 0) (x := (0 : Int32)) (by decide)) (by decide)))
    refine at_iload_n C 0 dX7_search_26 rfl ?_
    refine at_if_lt C 126 dX7_search_27 (by decide) (fun c74 => absurd c74 (iv_xlt (iv_c (c := 0) (x := (0 : Int32)) (by decide)) (iv_c (c := 0) (x := (0 : Int32)) (by decide)) (by decide))) (fun c74 => ?_)
    refine at_iload_n C 0 dX7_search_30 rfl ?_
    refine at_aload_n C 1 dX7_search_31 rfl ?_
    refine gf_X7_106 C dX7_search_32 ?_
    show AT E 35 [(2, .int (0 : Int32)), (0, .ref (e_q E 30)), (1, .int x1)] [.int (0 : Int32), .int (0 : Int32)] (ac_si (ac_si σ 18 (0 : Int32)) 19 (0 : Int32))
    refine at_icmp_ge C 126 dX7_search_35 (by decide) (fun c75 => ?_) (fun c75 => absurd (Int32.not_le.mp c75) (iv_xlt (iv_c (c := 0) (x := (0 : Int32)) (by decide)) (iv_c (c := 0) (x := (0 : Int32)) (by decide)) (by decide)))
    refine at_iload_n C 0 dX7_search_126 rfl ?_
    refine at_aload_n C 1 dX7_search_127 rfl ?_
    refine gf_X7_106 C dX7_search_128 ?_
    show AT E 131 [(2, .int (0 : Int32)), (0, .ref (e_q E 30)), (1, .int x1)] [.int (0 : Int32), .int (0 : Int32)] (ac_si (ac_si σ 18 (0 : Int32)) 19 (0 : Int32))
    refine at_icmp_ne C 138 dX7_search_131 (by decide) (fun c76 => absurd (iv_xne (iv_c (c := 0) (x := (0 : Int32)) (by decide)) (iv_c (c := 0) (x := (0 : Int32)) (by decide))) c76) (fun c76 => ?_)
    refine at_iconst C (1 : Int32) dX7_search_134 (by decide) ?_
    refine at_goto C 139 dX7_search_135 (by decide) ?_
    refine at_Si C (As := [.int (1 : Int32)]) (st := []) (ct_X7_one (ac_si (ac_si σ 18 (0 : Int32)) 19 (0 : Int32)) (1 : Int32) hJ72) mb_X7_one ml_X7_124 rfl (by decide) rfl (Nat.le_of_ble_eq_true rfl) dX7_search_139 ?_
    rintro _ _ (⟨c77, rfl, rfl⟩ | ⟨c79, rfl, rfl⟩)
    · exact absurd c77 (by decide)
    · show AT E 142 [(2, .int (0 : Int32)), (0, .ref (e_q E 30)), (1, .int x1)] [.int (1 : Int32)] (ac_si (ac_si σ 18 (0 : Int32)) 19 (0 : Int32))
      exact hR _ _ _ _ dX7_search_142 ⟨rfl, rfl, hJ72⟩
set_option maxHeartbeats 4000000 in
set_option maxRecDepth 100000 in
theorem cz_X7_packs (σ : SS) (x1 : Int32) (hI : Inv σ) (gf15 : iv 0 0 (ac_gi σ 15)) : ConI yX7_packs cX7_packs 3 (some .boolean) 2 (some 30) [.int x1] σ (fun r σ' => (r = (1 : Int32) ∧ (ac_si σ 18 (0 : Int32)) = σ' ∧ Inv σ')) := by
  refine conZ_of (by decide) (fun q => Nat.le_of_ble_eq_true rfl) (fun r u h => Or.inr h.1) (fun E C en hR => ?_)
  have hn2 : 2 < e_n E := by rw [en]; decide
  refine at_aload_n C 0 dX7_packs_0 rfl ?_
  refine at_iload_n C 1 dX7_packs_1 rfl ?_
  refine at_Vv C (As := [.int x1]) (st := []) (b := 30) (ci := 7) (cz_X7_layRow σ x1 hI (show iv 0 0 (ac_gi σ 15) from gf15)) mb_X7_layRow ml_X7_113 rfl rfl rfl (by decide) rfl (Nat.le_of_ble_eq_true rfl) dX7_packs_2 ?_
  rintro _ ⟨rfl, hJ36⟩
  · show AT E 5 [(0, .ref (e_q E 30)), (1, .int x1)] [] (ac_si σ 18 (0 : Int32))
    refine at_iconst C (0 : Int32) dX7_packs_5 (by decide) ?_
    refine at_istore_n C (lv' := [(2, .int (0 : Int32)), (0, .ref (e_q E 30)), (1, .int x1)]) dX7_packs_6 hn2 rfl ?_
    refine at_aload_n C 1 dX7_packs_7 rfl ?_
    refine gf_X7_106 C dX7_packs_8 ?_
    show AT E 11 [(2, .int (0 : Int32)), (0, .ref (e_q E 30)), (1, .int x1)] [.int (0 : Int32)] (ac_si σ 18 (0 : Int32))
    refine at_if_le C 21 dX7_packs_11 (by decide) (fun c37 => ?_) (fun c37 => absurd (Int32.not_le.mp c37) (iv_xlt (iv_c (c := 0) (x := (0 : Int32)) (by decide)) (iv_c (c := 0) (x := (0 : Int32)) (by decide)) (by decide)))
    refine at_iload_n C 0 dX7_packs_21 rfl ?_
    refine at_if_lt C 105 dX7_packs_22 (by decide) (fun c38 => absurd c38 (iv_xlt (iv_c (c := 0) (x := (0 : Int32)) (by decide)) (iv_c (c := 0) (x := (0 : Int32)) (by decide)) (by decide))) (fun c38 => ?_)
    refine at_iload_n C 0 dX7_packs_25 rfl ?_
    refine at_aload_n C 1 dX7_packs_26 rfl ?_
    refine gf_X7_106 C dX7_packs_27 ?_
    show AT E 30 [(2, .int (0 : Int32)), (0, .ref (e_q E 30)), (1, .int x1)] [.int (0 : Int32), .int (0 : Int32)] (ac_si σ 18 (0 : Int32))
    refine at_icmp_ge C 105 dX7_packs_30 (by decide) (fun c39 => ?_) (fun c39 => absurd (Int32.not_le.mp c39) (iv_xlt (iv_c (c := 0) (x := (0 : Int32)) (by decide)) (iv_c (c := 0) (x := (0 : Int32)) (by decide)) (by decide)))
    refine at_iload_n C 0 dX7_packs_105 rfl ?_
    refine at_aload_n C 1 dX7_packs_106 rfl ?_
    refine gf_X7_106 C dX7_packs_107 ?_
    show AT E 110 [(2, .int (0 : Int32)), (0, .ref (e_q E 30)), (1, .int x1)] [.int (0 : Int32), .int (0 : Int32)] (ac_si σ 18 (0 : Int32))
    refine at_icmp_ne C 117 dX7_packs_110 (by decide) (fun c40 => absurd (iv_xne (iv_c (c := 0) (x := (0 : Int32)) (by decide)) (iv_c (c := 0) (x := (0 : Int32)) (by decide))) c40) (fun c40 => ?_)
    refine at_iconst C (1 : Int32) dX7_packs_113 (by decide) ?_
    refine at_goto C 118 dX7_packs_114 (by decide) ?_
    exact hR _ _ _ _ dX7_packs_118 ⟨rfl, rfl, hJ36⟩
set_option maxHeartbeats 4000000 in
set_option maxRecDepth 100000 in
theorem cz_X7_fits (σ : SS) (x1 : Int32) (hI : Inv σ) (gf15 : iv 0 0 (ac_gi σ 15)) : ConI yX7_fits cX7_fits 2 (some .int) 3 (some 30) [.int x1] σ (fun r σ' => ((¬ ((0 ≤ (x1).toInt ∧ (x1).toInt < ((1 : Int32) <<< (ac_gi σ 15 &&& 31)).toInt))) ∧ r = (-2 : Int32) ∧ σ = σ' ∧ Inv σ') ∨ (((0 ≤ (x1).toInt ∧ (x1).toInt < ((1 : Int32) <<< (ac_gi σ 15 &&& 31)).toInt)) ∧ r = (1 : Int32) ∧ (ac_si (ac_si σ 18 (0 : Int32)) 19 (0 : Int32)) = σ' ∧ Inv σ')) := by
  refine conI_of (by decide) (fun q => Nat.le_of_ble_eq_true rfl) (fun E C en hR => ?_)
  refine at_aload_n C 0 dX7_fits_0 rfl ?_
  refine at_iload_n C 1 dX7_fits_1 rfl ?_
  refine at_Vi C (As := [.int x1]) (st := []) (b := 30) (ci := 7) (ct_X7_noSet σ x1 hI) mb_X7_noSet ml_X7_131 rfl rfl rfl (by decide) rfl (Nat.le_of_ble_eq_true rfl) dX7_fits_2 ?_
  rintro _ _ ⟨rfl, ⟨rfl, c43⟩ | ⟨rfl, c43⟩⟩
  · refine at_if_eq C 13 dX7_fits_5 (by decide) (fun c45 => absurd c45 (iv_xeq (iv_c (c := 1) (x := (1 : Int32)) (by decide)) (iv_c (c := 0) (x := (0 : Int32)) (by decide)) (by decide))) (fun c45 => ?_)
    refine at_bipush C (-2 : Int32) dX7_fits_8 (by decide) ?_
    refine at_goto C 18 dX7_fits_10 (by decide) ?_
    exact hR _ _ _ _ dX7_fits_18 (Or.inl ⟨(by have t1 := iv_ne c45; have k0 : (0 : Int32).toInt = 0 := (by decide); have k1 : (1 : Int32).toInt = 1 := (by decide); have := c43; omega), rfl, rfl, hI⟩)
  · have f46 : iv 0 0 x1 := (iv_of3 (Classical.not_not.mp c43) (iv_shl1 (a := 0) (b := 0) gf15 (by decide)))
    refine at_if_eq C 13 dX7_fits_5 (by decide) (fun c47 => ?_) (fun c47 => absurd (iv_xne (iv_c (c := 0) (x := (0 : Int32)) (by decide)) (iv_c (c := 0) (x := (0 : Int32)) (by decide))) c47)
    refine at_aload_n C 0 dX7_fits_13 rfl ?_
    refine at_iload_n C 1 dX7_fits_14 rfl ?_
    refine at_Vi C (As := [.int x1]) (st := []) (b := 30) (ci := 7) (cz_X7_search σ x1 hI (show iv 0 0 (ac_gi σ 15) from gf15)) mb_X7_search ml_X7_134 rfl rfl rfl (by decide) rfl (Nat.le_of_ble_eq_true rfl) dX7_fits_15 ?_
    rintro _ _ ⟨rfl, rfl, hJ48⟩
    · show AT E 18 [(0, .ref (e_q E 30)), (1, .int x1)] [.int (1 : Int32)] (ac_si (ac_si σ 18 (0 : Int32)) 19 (0 : Int32))
      exact hR _ _ _ _ dX7_fits_18 (Or.inr ⟨(by have t1 := congrArg Int32.toInt c47; have k0 : (0 : Int32).toInt = 0 := (by decide); have := c43; omega), rfl, rfl, hJ48⟩)
set_option maxHeartbeats 4000000 in
set_option maxRecDepth 100000 in
theorem cz_X7_tries (σ : SS) (x1 : Int32) (hI : Inv σ) (gf15 : iv 0 0 (ac_gi σ 15)) : ConI yX7_tries cX7_tries 3 (some .int) 3 (some 30) [.int x1] σ (fun r σ' => ((¬ ((0 ≤ (x1).toInt ∧ (x1).toInt < ((1 : Int32) <<< (ac_gi σ 15 &&& 31)).toInt))) ∧ r = (-2 : Int32) ∧ σ = σ' ∧ Inv σ') ∨ (((0 ≤ (x1).toInt ∧ (x1).toInt < ((1 : Int32) <<< (ac_gi σ 15 &&& 31)).toInt)) ∧ r = (0 : Int32) ∧ (ac_si (ac_si σ 18 (0 : Int32)) 19 (0 : Int32)) = σ' ∧ Inv σ')) := by
  refine conI_of (by decide) (fun q => Nat.le_of_ble_eq_true rfl) (fun E C en hR => ?_)
  have hn2 : 2 < e_n E := by rw [en]; decide
  refine at_aload_n C 0 dX7_tries_0 rfl ?_
  refine at_iload_n C 1 dX7_tries_1 rfl ?_
  refine at_Vi C (As := [.int x1]) (st := []) (b := 30) (ci := 7) (ct_X7_noSet σ x1 hI) mb_X7_noSet ml_X7_131 rfl rfl rfl (by decide) rfl (Nat.le_of_ble_eq_true rfl) dX7_tries_2 ?_
  rintro _ _ ⟨rfl, ⟨rfl, c43⟩ | ⟨rfl, c43⟩⟩
  · refine at_if_eq C 11 dX7_tries_5 (by decide) (fun c45 => absurd c45 (iv_xeq (iv_c (c := 1) (x := (1 : Int32)) (by decide)) (iv_c (c := 0) (x := (0 : Int32)) (by decide)) (by decide))) (fun c45 => ?_)
    refine at_bipush C (-2 : Int32) dX7_tries_8 (by decide) ?_
    exact hR _ _ _ _ dX7_tries_10 (Or.inl ⟨(by have t1 := iv_ne c45; have k0 : (0 : Int32).toInt = 0 := (by decide); have k1 : (1 : Int32).toInt = 1 := (by decide); have := c43; omega), rfl, rfl, hI⟩)
  · have f46 : iv 0 0 x1 := (iv_of3 (Classical.not_not.mp c43) (iv_shl1 (a := 0) (b := 0) gf15 (by decide)))
    refine at_if_eq C 11 dX7_tries_5 (by decide) (fun c47 => ?_) (fun c47 => absurd (iv_xne (iv_c (c := 0) (x := (0 : Int32)) (by decide)) (iv_c (c := 0) (x := (0 : Int32)) (by decide))) c47)
    refine at_aload_n C 0 dX7_tries_11 rfl ?_
    refine at_iload_n C 1 dX7_tries_12 rfl ?_
    refine at_Vi C (As := [.int x1]) (st := []) (b := 30) (ci := 7) (cz_X7_search σ x1 hI (show iv 0 0 (ac_gi σ 15) from gf15)) mb_X7_search ml_X7_134 rfl rfl rfl (by decide) rfl (Nat.le_of_ble_eq_true rfl) dX7_tries_13 ?_
    rintro _ _ ⟨rfl, rfl, hJ48⟩
    · show AT E 16 [(0, .ref (e_q E 30)), (1, .int x1)] [.int (1 : Int32)] (ac_si (ac_si σ 18 (0 : Int32)) 19 (0 : Int32))
      refine at_istore_n C (lv' := [(2, .int (1 : Int32)), (0, .ref (e_q E 30)), (1, .int x1)]) dX7_tries_16 hn2 rfl ?_
      refine at_aload_n C 1 dX7_tries_17 rfl ?_
      refine gf_X7_117 C dX7_tries_18 ?_
      show AT E 21 [(2, .int (1 : Int32)), (0, .ref (e_q E 30)), (1, .int x1)] [.int (0 : Int32)] (ac_si (ac_si σ 18 (0 : Int32)) 19 (0 : Int32))
      exact hR _ _ _ _ dX7_tries_21 (Or.inr ⟨(by have t1 := congrArg Int32.toInt c47; have k0 : (0 : Int32).toInt = 0 := (by decide); have := c43; omega), rfl, rfl, hJ48⟩)
set_option maxHeartbeats 4000000 in
set_option maxRecDepth 100000 in
theorem cz_X7_packing (σ : SS) (x1 : Int32) (x2 : Int32) (hI : Inv σ) (gf15 : iv 0 0 (ac_gi σ 15)) : ConI yX7_packing cX7_packing 5 (some .int) 3 (some 30) [.int x1, .int x2] σ (fun r σ' => (r = (-2 : Int32) ∧ σ = σ' ∧ Inv σ')) := by
  refine conI_of (by decide) (fun q => Nat.le_of_ble_eq_true rfl) (fun E C en hR => ?_)
  have hn3 : 3 < e_n E := by rw [en]; decide
  have hn4 : 4 < e_n E := by rw [en]; decide
  refine at_aload_n C 0 dX7_packing_0 rfl ?_
  refine at_iload_n C 1 dX7_packing_1 rfl ?_
  refine at_Vi C (As := [.int x1]) (st := []) (b := 30) (ci := 7) (ct_X7_noSet σ x1 hI) mb_X7_noSet ml_X7_131 rfl rfl rfl (by decide) rfl (Nat.le_of_ble_eq_true rfl) dX7_packing_2 ?_
  rintro _ _ ⟨rfl, ⟨rfl, c64⟩ | ⟨rfl, c64⟩⟩
  · refine at_if_ne C 24 dX7_packing_5 (by decide) (fun c66 => ?_) (fun c66 => absurd c66 (iv_xeq (iv_c (c := 1) (x := (1 : Int32)) (by decide)) (iv_c (c := 0) (x := (0 : Int32)) (by decide)) (by decide)))
    refine at_bipush C (-2 : Int32) dX7_packing_24 (by decide) ?_
    exact hR _ _ _ _ dX7_packing_26 ⟨rfl, rfl, hI⟩
  · have f67 : iv 0 0 x1 := (iv_of3 (Classical.not_not.mp c64) (iv_shl1 (a := 0) (b := 0) gf15 (by decide)))
    refine at_if_ne C 24 dX7_packing_5 (by decide) (fun c68 => absurd (iv_xne (iv_c (c := 0) (x := (0 : Int32)) (by decide)) (iv_c (c := 0) (x := (0 : Int32)) (by decide))) c68) (fun c68 => ?_)
    refine at_aload_n C 0 dX7_packing_8 rfl ?_
    refine at_iload_n C 2 dX7_packing_9 rfl ?_
    refine at_Vi C (As := [.int x2]) (st := []) (b := 30) (ci := 7) (ct_X7_noMast σ x2 hI) mb_X7_noMast ml_X7_96 rfl rfl rfl (by decide) rfl (Nat.le_of_ble_eq_true rfl) dX7_packing_10 ?_
    rintro _ _ ⟨rfl, ⟨rfl, c69⟩ | ⟨rfl, c69⟩⟩
    · refine at_if_ne C 24 dX7_packing_13 (by decide) (fun c71 => ?_) (fun c71 => absurd c71 (iv_xeq (iv_c (c := 1) (x := (1 : Int32)) (by decide)) (iv_c (c := 0) (x := (0 : Int32)) (by decide)) (by decide)))
      refine at_bipush C (-2 : Int32) dX7_packing_24 (by decide) ?_
      exact hR _ _ _ _ dX7_packing_26 ⟨rfl, rfl, hI⟩
    · have f72 : iv 0 (-1) x2 := (iv_of3 (Classical.not_not.mp c69) gf15)
      exact iv_no f72 (by decide)
set_option maxHeartbeats 4000000 in
set_option maxRecDepth 100000 in
theorem cz_X7_reason (σ : SS) (x1 : Int32) (hI : Inv σ) (gf15 : iv 0 0 (ac_gi σ 15)) : ConI yX7_reason cX7_reason 5 (some .int) 4 (some 30) [.int x1] σ (fun r σ' => ((¬ ((0 ≤ (x1).toInt ∧ (x1).toInt < ((1 : Int32) <<< (ac_gi σ 15 &&& 31)).toInt))) ∧ r = (-2 : Int32) ∧ σ = σ' ∧ Inv σ') ∨ (((0 ≤ (x1).toInt ∧ (x1).toInt < ((1 : Int32) <<< (ac_gi σ 15 &&& 31)).toInt)) ∧ r = (-3 : Int32) ∧ (ac_si σ 18 (0 : Int32)) = σ' ∧ Inv σ')) := by
  refine conI_of (by decide) (fun q => Nat.le_of_ble_eq_true rfl) (fun E C en hR => ?_)
  have hn2 : 2 < e_n E := by rw [en]; decide
  have hn3 : 3 < e_n E := by rw [en]; decide
  have hn4 : 4 < e_n E := by rw [en]; decide
  refine at_aload_n C 0 dX7_reason_0 rfl ?_
  refine at_iload_n C 1 dX7_reason_1 rfl ?_
  refine at_Vi C (As := [.int x1]) (st := []) (b := 30) (ci := 7) (ct_X7_noSet σ x1 hI) mb_X7_noSet ml_X7_131 rfl rfl rfl (by decide) rfl (Nat.le_of_ble_eq_true rfl) dX7_reason_2 ?_
  rintro _ _ ⟨rfl, ⟨rfl, c50⟩ | ⟨rfl, c50⟩⟩
  · refine at_if_eq C 11 dX7_reason_5 (by decide) (fun c52 => absurd c52 (iv_xeq (iv_c (c := 1) (x := (1 : Int32)) (by decide)) (iv_c (c := 0) (x := (0 : Int32)) (by decide)) (by decide))) (fun c52 => ?_)
    refine at_bipush C (-2 : Int32) dX7_reason_8 (by decide) ?_
    exact hR _ _ _ _ dX7_reason_10 (Or.inl ⟨(by have t1 := iv_ne c52; have k0 : (0 : Int32).toInt = 0 := (by decide); have k1 : (1 : Int32).toInt = 1 := (by decide); have := c50; omega), rfl, rfl, hI⟩)
  · have f53 : iv 0 0 x1 := (iv_of3 (Classical.not_not.mp c50) (iv_shl1 (a := 0) (b := 0) gf15 (by decide)))
    refine at_if_eq C 11 dX7_reason_5 (by decide) (fun c54 => ?_) (fun c54 => absurd (iv_xne (iv_c (c := 0) (x := (0 : Int32)) (by decide)) (iv_c (c := 0) (x := (0 : Int32)) (by decide))) c54)
    refine at_aload_n C 0 dX7_reason_11 rfl ?_
    refine at_iload_n C 1 dX7_reason_12 rfl ?_
    refine at_Vi C (As := [.int x1]) (st := []) (b := 30) (ci := 7) (cz_X7_packs σ x1 hI (show iv 0 0 (ac_gi σ 15) from gf15)) mb_X7_packs ml_X7_138 rfl rfl rfl (by decide) rfl (Nat.le_of_ble_eq_true rfl) dX7_reason_13 ?_
    rintro _ _ ⟨rfl, rfl, hJ55⟩
    · show AT E 16 [(0, .ref (e_q E 30)), (1, .int x1)] [.int (1 : Int32)] (ac_si σ 18 (0 : Int32))
      refine at_if_eq C 22 dX7_reason_16 (by decide) (fun c56 => absurd c56 (iv_xeq (iv_c (c := 1) (x := (1 : Int32)) (by decide)) (iv_c (c := 0) (x := (0 : Int32)) (by decide)) (by decide))) (fun c56 => ?_)
      refine at_bipush C (-3 : Int32) dX7_reason_19 (by decide) ?_
      exact hR _ _ _ _ dX7_reason_21 (Or.inr ⟨(by have t1 := congrArg Int32.toInt c54; have t2 := iv_ne c56; have k0 : (0 : Int32).toInt = 0 := (by decide); have k1 : (1 : Int32).toInt = 1 := (by decide); have := c50; omega), rfl, rfl, hJ55⟩)
set_option maxHeartbeats 4000000 in
set_option maxRecDepth 100000 in
theorem cz_X7_spare (σ : SS) (x1 : Int32) (hI : Inv σ) (gf15 : iv 0 0 (ac_gi σ 15)) : ConI yX7_spare cX7_spare 4 (some .int) 3 (some 30) [.int x1] σ (fun r σ' => ((¬ ((0 ≤ (x1).toInt ∧ (x1).toInt < ((1 : Int32) <<< (ac_gi σ 15 &&& 31)).toInt))) ∧ r = (-2 : Int32) ∧ σ = σ' ∧ Inv σ') ∨ (((0 ≤ (x1).toInt ∧ (x1).toInt < ((1 : Int32) <<< (ac_gi σ 15 &&& 31)).toInt)) ∧ r = (0 : Int32) ∧ (ac_si σ 18 (0 : Int32)) = σ' ∧ Inv σ')) := by
  refine conI_of (by decide) (fun q => Nat.le_of_ble_eq_true rfl) (fun E C en hR => ?_)
  have hn2 : 2 < e_n E := by rw [en]; decide
  have hn3 : 3 < e_n E := by rw [en]; decide
  refine at_aload_n C 0 dX7_spare_0 rfl ?_
  refine at_iload_n C 1 dX7_spare_1 rfl ?_
  refine at_Vi C (As := [.int x1]) (st := []) (b := 30) (ci := 7) (ct_X7_noSet σ x1 hI) mb_X7_noSet ml_X7_131 rfl rfl rfl (by decide) rfl (Nat.le_of_ble_eq_true rfl) dX7_spare_2 ?_
  rintro _ _ ⟨rfl, ⟨rfl, c57⟩ | ⟨rfl, c57⟩⟩
  · refine at_if_eq C 11 dX7_spare_5 (by decide) (fun c59 => absurd c59 (iv_xeq (iv_c (c := 1) (x := (1 : Int32)) (by decide)) (iv_c (c := 0) (x := (0 : Int32)) (by decide)) (by decide))) (fun c59 => ?_)
    refine at_bipush C (-2 : Int32) dX7_spare_8 (by decide) ?_
    exact hR _ _ _ _ dX7_spare_10 (Or.inl ⟨(by have t1 := iv_ne c59; have k0 : (0 : Int32).toInt = 0 := (by decide); have k1 : (1 : Int32).toInt = 1 := (by decide); have := c57; omega), rfl, rfl, hI⟩)
  · have f60 : iv 0 0 x1 := (iv_of3 (Classical.not_not.mp c57) (iv_shl1 (a := 0) (b := 0) gf15 (by decide)))
    refine at_if_eq C 11 dX7_spare_5 (by decide) (fun c61 => ?_) (fun c61 => absurd (iv_xne (iv_c (c := 0) (x := (0 : Int32)) (by decide)) (iv_c (c := 0) (x := (0 : Int32)) (by decide))) c61)
    refine at_aload_n C 0 dX7_spare_11 rfl ?_
    refine at_iload_n C 1 dX7_spare_12 rfl ?_
    refine at_Vi C (As := [.int x1]) (st := []) (b := 30) (ci := 7) (cz_X7_packs σ x1 hI (show iv 0 0 (ac_gi σ 15) from gf15)) mb_X7_packs ml_X7_138 rfl rfl rfl (by decide) rfl (Nat.le_of_ble_eq_true rfl) dX7_spare_13 ?_
    rintro _ _ ⟨rfl, rfl, hJ62⟩
    · show AT E 16 [(0, .ref (e_q E 30)), (1, .int x1)] [.int (1 : Int32)] (ac_si σ 18 (0 : Int32))
      refine at_if_ne C 22 dX7_spare_16 (by decide) (fun c63 => ?_) (fun c63 => absurd c63 (iv_xeq (iv_c (c := 1) (x := (1 : Int32)) (by decide)) (iv_c (c := 0) (x := (0 : Int32)) (by decide)) (by decide)))
      refine at_iconst C (0 : Int32) dX7_spare_22 (by decide) ?_
      refine at_istore_n C (lv' := [(2, .int (0 : Int32)), (0, .ref (e_q E 30)), (1, .int x1)]) dX7_spare_23 hn2 rfl ?_
      refine at_iconst C (0 : Int32) dX7_spare_24 (by decide) ?_
      refine at_istore_n C (lv' := [(3, .int (0 : Int32)), (2, .int (0 : Int32)), (0, .ref (e_q E 30)), (1, .int x1)]) dX7_spare_25 hn3 rfl ?_
      refine at_iload_n C 0 dX7_spare_26 rfl ?_
      refine at_aload_n C 2 dX7_spare_27 rfl ?_
      refine gf_X7_87 C dX7_spare_28 ?_
      show AT E 31 [(3, .int (0 : Int32)), (2, .int (0 : Int32)), (0, .ref (e_q E 30)), (1, .int x1)] [.int (ac_gi σ 15), .int (0 : Int32)] (ac_si σ 18 (0 : Int32))
      refine at_icmp_ge C 70 dX7_spare_31 (by decide) (fun c64 => ?_) (fun c64 => absurd (Int32.not_le.mp c64) (iv_xlt (iv_c (c := 0) (x := (0 : Int32)) (by decide)) gf15 (by decide)))
      refine at_iload_n C 1 dX7_spare_70 rfl ?_
      exact hR _ _ _ _ dX7_spare_71 (Or.inr ⟨(by have t1 := congrArg Int32.toInt c61; have t2 := iv_ne c63; have t3 := iv_le c64; have k0 : (0 : Int32).toInt = 0 := (by decide); have k1 : (1 : Int32).toInt = 1 := (by decide); have := c57; omega), rfl, rfl, hJ62⟩)
set_option maxHeartbeats 4000000 in
set_option maxRecDepth 100000 in
theorem cz_X7_olds (σ : SS) (hI : Inv σ) (gf15 : iv 0 0 (ac_gi σ 15)) : ConI yX7_olds cX7_olds 3 (some .int) 1 (some 30) [] σ (fun r σ' => (r = (0 : Int32) ∧ σ = σ' ∧ Inv σ')) := by
  refine conI_of (by decide) (fun q => Nat.le_of_ble_eq_true rfl) (fun E C en hR => ?_)
  have hn1 : 1 < e_n E := by rw [en]; decide
  have hn2 : 2 < e_n E := by rw [en]; decide
  refine at_iconst C (0 : Int32) dX7_olds_0 (by decide) ?_
  refine at_istore_n C (lv' := [(1, .int (0 : Int32)), (0, .ref (e_q E 30))]) dX7_olds_1 hn1 rfl ?_
  refine at_iconst C (0 : Int32) dX7_olds_2 (by decide) ?_
  refine at_istore_n C (lv' := [(2, .int (0 : Int32)), (1, .int (0 : Int32)), (0, .ref (e_q E 30))]) dX7_olds_3 hn2 rfl ?_
  refine at_iload_n C 0 dX7_olds_4 rfl ?_
  refine at_aload_n C 2 dX7_olds_5 rfl ?_
  refine gf_X7_87 C dX7_olds_6 ?_
  refine at_icmp_ge C 32 dX7_olds_9 (by decide) (fun c8 => ?_) (fun c8 => absurd (Int32.not_le.mp c8) (iv_xlt (iv_c (c := 0) (x := (0 : Int32)) (by decide)) gf15 (by decide)))
  refine at_iload_n C 1 dX7_olds_32 rfl ?_
  exact hR _ _ _ _ dX7_olds_33 ⟨rfl, rfl, hI⟩
set_option maxHeartbeats 4000000 in
set_option maxRecDepth 100000 in
theorem cz_X7_goDown (σ : SS) (x1 : Int32) (x2 : Int32) (hI : Inv σ) (gf15 : iv 0 0 (ac_gi σ 15)) : ConV yX7_goDown cX7_goDown 8 none 3 (some 30) [.int x1, .int x2] σ (fun σ' => ((ac_si (ac_si (ac_si σ 22 (0 : Int32)) 23 (0 : Int32)) 24 (0 : Int32)) = σ' ∧ Inv σ')) := by
  refine conV_of (by decide) (fun q => Nat.le_of_ble_eq_true rfl) (fun E C en hR => ?_)
  have hn3 : 3 < e_n E := by rw [en]; decide
  have hn4 : 4 < e_n E := by rw [en]; decide
  have hn5 : 5 < e_n E := by rw [en]; decide
  have hn6 : 6 < e_n E := by rw [en]; decide
  have hn7 : 7 < e_n E := by rw [en]; decide
  refine at_aload_n C 0 dX7_goDown_0 rfl ?_
  refine at_Vi C (As := []) (st := []) (b := 30) (ci := 7) (cz_X7_olds σ hI (show iv 0 0 (ac_gi σ 15) from gf15)) mb_X7_olds ml_X7_153 rfl rfl rfl (by decide) rfl (Nat.le_of_ble_eq_true rfl) dX7_goDown_1 ?_
  rintro _ _ ⟨rfl, rfl, hJ36⟩
  · show AT E 4 [(0, .ref (e_q E 30)), (1, .int x1), (2, .int x2)] [.int (0 : Int32)] σ
    refine at_istore_n C (lv' := [(3, .int (0 : Int32)), (0, .ref (e_q E 30)), (1, .int x1), (2, .int x2)]) dX7_goDown_4 hn3 rfl ?_
    refine at_aload_n C 1 dX7_goDown_5 rfl ?_
    refine at_iconst C (0 : Int32) dX7_goDown_6 (by decide) ?_
    refine pf_X7_157 C dX7_goDown_7 ?_
    have hJ37 := Inv.si (k := 22) hI (iv_wk (iv_c (c := 0) (x := (0 : Int32)) (by decide)) (by decide) (by decide) : iv 0 1023 (0 : Int32))
    refine at_aload_n C 1 dX7_goDown_10 rfl ?_
    refine at_iconst C (0 : Int32) dX7_goDown_11 (by decide) ?_
    refine pf_X7_160 C dX7_goDown_12 ?_
    have hJ38 := Inv.si (k := 23) hJ37 (iv_wk (iv_c (c := 0) (x := (0 : Int32)) (by decide)) (by decide) (by decide) : iv 0 1023 (0 : Int32))
    refine at_aload_n C 1 dX7_goDown_15 rfl ?_
    refine at_iconst C (0 : Int32) dX7_goDown_16 (by decide) ?_
    refine pf_X7_163 C dX7_goDown_17 ?_
    have hJ39 := Inv.si (k := 24) hJ38 (iv_wk (iv_c (c := 0) (x := (0 : Int32)) (by decide)) (by decide) (by decide) : iv (-2147483648) 2147483647 (0 : Int32))
    refine at_aload_n C 1 dX7_goDown_20 rfl ?_
    refine gf_X7_42 C dX7_goDown_21 ?_
    show AT E 24 [(3, .int (0 : Int32)), (0, .ref (e_q E 30)), (1, .int x1), (2, .int x2)] [.int (ac_gi σ 20)] (ac_si (ac_si (ac_si σ 22 (0 : Int32)) 23 (0 : Int32)) 24 (0 : Int32))
    refine at_istore C (lv' := [(4, .int (ac_gi σ 20)), (3, .int (0 : Int32)), (0, .ref (e_q E 30)), (1, .int x1), (2, .int x2)]) dX7_goDown_24 hn4 rfl ?_
    refine at_aload_n C 2 dX7_goDown_26 rfl ?_
    refine gf_X7_42 C dX7_goDown_27 ?_
    show AT E 30 [(4, .int (ac_gi σ 20)), (3, .int (0 : Int32)), (0, .ref (e_q E 30)), (1, .int x1), (2, .int x2)] [.int (ac_gi σ 20)] (ac_si (ac_si (ac_si σ 22 (0 : Int32)) 23 (0 : Int32)) 24 (0 : Int32))
    refine at_istore C (lv' := [(5, .int (ac_gi σ 20)), (4, .int (ac_gi σ 20)), (3, .int (0 : Int32)), (0, .ref (e_q E 30)), (1, .int x1), (2, .int x2)]) dX7_goDown_30 hn5 rfl ?_
    refine at_aload_n C 3 dX7_goDown_32 rfl ?_
    refine gf_X7_157 C dX7_goDown_33 ?_
    show AT E 36 [(5, .int (ac_gi σ 20)), (4, .int (ac_gi σ 20)), (3, .int (0 : Int32)), (0, .ref (e_q E 30)), (1, .int x1), (2, .int x2)] [.int (0 : Int32)] (ac_si (ac_si (ac_si σ 22 (0 : Int32)) 23 (0 : Int32)) 24 (0 : Int32))
    refine at_aload_n C 3 dX7_goDown_36 rfl ?_
    refine gf_X7_160 C dX7_goDown_37 ?_
    show AT E 40 [(5, .int (ac_gi σ 20)), (4, .int (ac_gi σ 20)), (3, .int (0 : Int32)), (0, .ref (e_q E 30)), (1, .int x1), (2, .int x2)] [.int (0 : Int32), .int (0 : Int32)] (ac_si (ac_si (ac_si σ 22 (0 : Int32)) 23 (0 : Int32)) 24 (0 : Int32))
    refine at_ior C dX7_goDown_40 ?_
    refine at_iload_n C 2 dX7_goDown_41 rfl ?_
    refine at_icmp_eq C 284 dX7_goDown_42 (by decide) (fun c40 => ?_) (fun c40 => absurd (iv_xne (iv_or 0 (iv_c (c := 0) (x := (0 : Int32)) (by decide)) (iv_c (c := 0) (x := (0 : Int32)) (by decide)) (by decide) (by decide) (by decide)) (iv_c (c := 0) (x := (0 : Int32)) (by decide))) c40)
    exact hR _ _ _ dX7_goDown_284 ⟨rfl, hJ39⟩
set_option maxHeartbeats 4000000 in
set_option maxRecDepth 100000 in
theorem cz_X7_paidAll (σ : SS) (hI : Inv σ) (gf15 : iv 0 0 (ac_gi σ 15)) : ConI yX7_paidAll cX7_paidAll 3 (some .int) 0 (some 30) [] σ (fun r σ' => (r = (0 : Int32) ∧ σ = σ' ∧ Inv σ')) := by
  refine conI_of (by decide) (fun q => Nat.le_of_ble_eq_true rfl) (fun E C en hR => ?_)
  have hn1 : 1 < e_n E := by rw [en]; decide
  have hn2 : 2 < e_n E := by rw [en]; decide
  refine at_iconst C (0 : Int32) dX7_paidAll_0 (by decide) ?_
  refine at_istore_n C (lv' := [(1, .int (0 : Int32)), (0, .ref (e_q E 30))]) dX7_paidAll_1 hn1 rfl ?_
  refine at_iconst C (0 : Int32) dX7_paidAll_2 (by decide) ?_
  refine at_istore_n C (lv' := [(2, .int (0 : Int32)), (1, .int (0 : Int32)), (0, .ref (e_q E 30))]) dX7_paidAll_3 hn2 rfl ?_
  refine at_iload_n C 0 dX7_paidAll_4 rfl ?_
  refine at_aload_n C 2 dX7_paidAll_5 rfl ?_
  refine gf_X7_87 C dX7_paidAll_6 ?_
  refine at_icmp_ge C 43 dX7_paidAll_9 (by decide) (fun c8 => ?_) (fun c8 => absurd (Int32.not_le.mp c8) (iv_xlt (iv_c (c := 0) (x := (0 : Int32)) (by decide)) gf15 (by decide)))
  refine at_iload_n C 1 dX7_paidAll_43 rfl ?_
  exact hR _ _ _ _ dX7_paidAll_44 ⟨rfl, rfl, hI⟩
set_option maxHeartbeats 4000000 in
set_option maxRecDepth 100000 in
theorem cz_X7_run (σ : SS) (x1 : Int32) (hI : Inv σ) (gf15 : iv 0 0 (ac_gi σ 15)) : ConI yX7_run cX7_run 2 (some .int) 4 (some 30) [.int x1] σ (fun r σ' => ((¬ ((0 ≤ (x1).toInt ∧ (x1).toInt ≤ 3))) ∧ r = (-2 : Int32) ∧ σ = σ' ∧ Inv σ') ∨ (((0 ≤ (x1).toInt ∧ (x1).toInt ≤ 3)) ∧ r = (0 : Int32) ∧ (ac_si (ac_si (ac_si σ 22 (0 : Int32)) 23 (0 : Int32)) 24 (0 : Int32)) = σ' ∧ Inv σ')) := by
  refine conI_of (by decide) (fun q => Nat.le_of_ble_eq_true rfl) (fun E C en hR => ?_)
  refine at_iload_n C 1 dX7_run_0 rfl ?_
  refine at_i2l C dX7_run_1 ?_
  refine at_lconst C (0 : Int64) dX7_run_2 (by decide) ?_
  refine at_ldc2 C (3 : Int64) dX7_run_3 kc_X7_166 ?_
  refine at_Si C (As := [.long (x1).toInt64, .long (0 : Int64), .long (3 : Int64)]) (st := []) (ct_X7_in σ (x1).toInt64 (0 : Int64) (3 : Int64)) mb_X7_in ml_X7_90 rfl (by decide) rfl (Nat.le_of_ble_eq_true rfl) dX7_run_6 ?_
  rintro _ _ ⟨rfl, ⟨rfl, c113⟩ | ⟨rfl, c113⟩⟩
  · have f115 : iv 0 3 x1 := (in_iv c113 (by decide) (by decide))
    refine at_if_ne C 15 dX7_run_9 (by decide) (fun c116 => ?_) (fun c116 => absurd c116 (iv_xeq (iv_c (c := 1) (x := (1 : Int32)) (by decide)) (iv_c (c := 0) (x := (0 : Int32)) (by decide)) (by decide)))
    refine at_aload_n C 0 dX7_run_15 rfl ?_
    refine at_iconst C (-1 : Int32) dX7_run_16 (by decide) ?_
    refine at_iconst C (0 : Int32) dX7_run_17 (by decide) ?_
    refine at_Vv C (As := [.int (-1 : Int32), .int (0 : Int32)]) (st := []) (b := 30) (ci := 7) (cz_X7_goDown σ (-1 : Int32) (0 : Int32) hI (show iv 0 0 (ac_gi σ 15) from gf15)) mb_X7_goDown ml_X7_168 rfl rfl rfl (by decide) rfl (Nat.le_of_ble_eq_true rfl) dX7_run_18 ?_
    rintro _ ⟨rfl, hJ117⟩
    · show AT E 21 [(0, .ref (e_q E 30)), (1, .int x1)] [] (ac_si (ac_si (ac_si σ 22 (0 : Int32)) 23 (0 : Int32)) 24 (0 : Int32))
      refine at_iload_n C 1 dX7_run_21 rfl ?_
      refine at_if_ne C 32 dX7_run_22 (by decide) (fun c118 => ?_) (fun c118 => ?_)
      · have f119 : iv 1 3 x1 := (iv_nel f115 (by decide) c118)
        refine at_iload_n C 1 dX7_run_32 rfl ?_
        refine at_iconst C (1 : Int32) dX7_run_33 (by decide) ?_
        refine at_icmp_ne C 44 dX7_run_34 (by decide) (fun c120 => ?_) (fun c120 => ?_)
        · have f121 : iv 2 3 x1 := (iv_nel f119 (by decide) c120)
          refine at_iload_n C 1 dX7_run_44 rfl ?_
          refine at_iconst C (2 : Int32) dX7_run_45 (by decide) ?_
          refine at_icmp_ne C 56 dX7_run_46 (by decide) (fun c122 => ?_) (fun c122 => ?_)
          · have f123 : iv 3 3 x1 := (iv_nel f121 (by decide) c122)
            refine at_aload_n C 0 dX7_run_56 rfl ?_
            refine at_Vi C (As := []) (st := []) (b := 30) (ci := 7) (cz_X7_paidAll (ac_si (ac_si (ac_si σ 22 (0 : Int32)) 23 (0 : Int32)) 24 (0 : Int32)) hJ117 (show iv 0 0 (ac_gi σ 15) from gf15)) mb_X7_paidAll ml_X7_172 rfl rfl rfl (by decide) rfl (Nat.le_of_ble_eq_true rfl) dX7_run_57 ?_
            rintro _ _ ⟨rfl, rfl, hJ124⟩
            · show AT E 60 [(0, .ref (e_q E 30)), (1, .int x1)] [.int (0 : Int32)] (ac_si (ac_si (ac_si σ 22 (0 : Int32)) 23 (0 : Int32)) 24 (0 : Int32))
              exact hR _ _ _ _ dX7_run_60 (Or.inr ⟨(by have t1 := iv_ne c116; have t2 := iv_ne c118; have t3 := iv_ne c120; have t4 := iv_ne c122; have k0 : (0 : Int32).toInt = 0 := (by decide); have k1 : (1 : Int32).toInt = 1 := (by decide); have k2 : (2 : Int32).toInt = 2 := (by decide); have := c113; have : (0 : Int64).toInt = 0 := (by decide); have : (3 : Int64).toInt = 3 := (by decide); have := w64 x1; omega), rfl, rfl, hJ117⟩)
          · have f125 : iv 2 2 x1 := (iv_eql (iv_c (c := 2) (x := (2 : Int32)) (by decide)) c122)
            refine at_aload_n C 0 dX7_run_49 rfl ?_
            refine gf_X7_163 C dX7_run_50 ?_
            show AT E 53 [(0, .ref (e_q E 30)), (1, .int x1)] [.int (0 : Int32)] (ac_si (ac_si (ac_si σ 22 (0 : Int32)) 23 (0 : Int32)) 24 (0 : Int32))
            refine at_goto C 60 dX7_run_53 (by decide) ?_
            exact hR _ _ _ _ dX7_run_60 (Or.inr ⟨(by have t1 := iv_ne c116; have t2 := iv_ne c118; have t3 := iv_ne c120; have t4 := congrArg Int32.toInt c122; have k0 : (0 : Int32).toInt = 0 := (by decide); have k1 : (1 : Int32).toInt = 1 := (by decide); have k2 : (2 : Int32).toInt = 2 := (by decide); have := c113; have : (0 : Int64).toInt = 0 := (by decide); have : (3 : Int64).toInt = 3 := (by decide); have := w64 x1; omega), rfl, rfl, hJ117⟩)
        · have f126 : iv 1 1 x1 := (iv_eql (iv_c (c := 1) (x := (1 : Int32)) (by decide)) c120)
          refine at_aload_n C 0 dX7_run_37 rfl ?_
          refine gf_X7_160 C dX7_run_38 ?_
          show AT E 41 [(0, .ref (e_q E 30)), (1, .int x1)] [.int (0 : Int32)] (ac_si (ac_si (ac_si σ 22 (0 : Int32)) 23 (0 : Int32)) 24 (0 : Int32))
          refine at_goto C 60 dX7_run_41 (by decide) ?_
          exact hR _ _ _ _ dX7_run_60 (Or.inr ⟨(by have t1 := iv_ne c116; have t2 := iv_ne c118; have t3 := congrArg Int32.toInt c120; have k0 : (0 : Int32).toInt = 0 := (by decide); have k1 : (1 : Int32).toInt = 1 := (by decide); have := c113; have : (0 : Int64).toInt = 0 := (by decide); have : (3 : Int64).toInt = 3 := (by decide); have := w64 x1; omega), rfl, rfl, hJ117⟩)
      · have f127 : iv 0 0 x1 := (iv_eql (iv_c (c := 0) (x := (0 : Int32)) (by decide)) c118)
        refine at_aload_n C 0 dX7_run_25 rfl ?_
        refine gf_X7_157 C dX7_run_26 ?_
        show AT E 29 [(0, .ref (e_q E 30)), (1, .int x1)] [.int (0 : Int32)] (ac_si (ac_si (ac_si σ 22 (0 : Int32)) 23 (0 : Int32)) 24 (0 : Int32))
        refine at_goto C 60 dX7_run_29 (by decide) ?_
        exact hR _ _ _ _ dX7_run_60 (Or.inr ⟨(by have t1 := iv_ne c116; have t2 := congrArg Int32.toInt c118; have k0 : (0 : Int32).toInt = 0 := (by decide); have k1 : (1 : Int32).toInt = 1 := (by decide); have := c113; have : (0 : Int64).toInt = 0 := (by decide); have : (3 : Int64).toInt = 3 := (by decide); have := w64 x1; omega), rfl, rfl, hJ117⟩)
  · refine at_if_ne C 15 dX7_run_9 (by decide) (fun c128 => absurd (iv_xne (iv_c (c := 0) (x := (0 : Int32)) (by decide)) (iv_c (c := 0) (x := (0 : Int32)) (by decide))) c128) (fun c128 => ?_)
    refine at_bipush C (-2 : Int32) dX7_run_12 (by decide) ?_
    exact hR _ _ _ _ dX7_run_14 (Or.inl ⟨(by have t1 := congrArg Int32.toInt c128; have k0 : (0 : Int32).toInt = 0 := (by decide); have := c113; have : (0 : Int64).toInt = 0 := (by decide); have : (3 : Int64).toInt = 3 := (by decide); have := w64 x1; omega), rfl, rfl, hI⟩)
set_option maxHeartbeats 4000000 in
set_option maxRecDepth 100000 in
theorem cz_X7_paid (σ : SS) (x1 : Int32) (hI : Inv σ) (gf15 : iv 0 0 (ac_gi σ 15)) : ConI yX7_paid cX7_paid 2 (some .int) 4 (some 30) [.int x1] σ (fun r σ' => (r = (-2 : Int32) ∧ σ = σ' ∧ Inv σ')) := by
  refine conI_of (by decide) (fun q => Nat.le_of_ble_eq_true rfl) (fun E C en hR => ?_)
  refine at_aload_n C 0 dX7_paid_0 rfl ?_
  refine at_iload_n C 1 dX7_paid_1 rfl ?_
  refine at_Vi C (As := [.int x1]) (st := []) (b := 30) (ci := 7) (ct_X7_noOld σ x1 hI) mb_X7_noOld ml_X7_175 rfl rfl rfl (by decide) rfl (Nat.le_of_ble_eq_true rfl) dX7_paid_2 ?_
  rintro _ _ ⟨rfl, ⟨rfl, c29⟩ | ⟨rfl, c29⟩⟩
  · refine at_if_eq C 11 dX7_paid_5 (by decide) (fun c31 => absurd c31 (iv_xeq (iv_c (c := 1) (x := (1 : Int32)) (by decide)) (iv_c (c := 0) (x := (0 : Int32)) (by decide)) (by decide))) (fun c31 => ?_)
    refine at_bipush C (-2 : Int32) dX7_paid_8 (by decide) ?_
    exact hR _ _ _ _ dX7_paid_10 ⟨rfl, rfl, hI⟩
  · have f32 : iv 0 (-1) x1 := (iv_of3 (Classical.not_not.mp c29).1 gf15)
    exact iv_no f32 (by decide)
set_option maxHeartbeats 4000000 in
set_option maxRecDepth 100000 in
theorem cz_X7_round (σ : SS) (x1 : Int32) (hI : Inv σ) (gf15 : iv 0 0 (ac_gi σ 15)) : ConI yX7_round cX7_round 2 (some .int) 4 (some 30) [.int x1] σ (fun r σ' => (r = (-2 : Int32) ∧ σ = σ' ∧ Inv σ')) := by
  refine conI_of (by decide) (fun q => Nat.le_of_ble_eq_true rfl) (fun E C en hR => ?_)
  refine at_aload_n C 0 dX7_round_0 rfl ?_
  refine at_iload_n C 1 dX7_round_1 rfl ?_
  refine at_Vi C (As := [.int x1]) (st := []) (b := 30) (ci := 7) (ct_X7_noOld σ x1 hI) mb_X7_noOld ml_X7_175 rfl rfl rfl (by decide) rfl (Nat.le_of_ble_eq_true rfl) dX7_round_2 ?_
  rintro _ _ ⟨rfl, ⟨rfl, c29⟩ | ⟨rfl, c29⟩⟩
  · refine at_if_eq C 11 dX7_round_5 (by decide) (fun c31 => absurd c31 (iv_xeq (iv_c (c := 1) (x := (1 : Int32)) (by decide)) (iv_c (c := 0) (x := (0 : Int32)) (by decide)) (by decide))) (fun c31 => ?_)
    refine at_bipush C (-2 : Int32) dX7_round_8 (by decide) ?_
    exact hR _ _ _ _ dX7_round_10 ⟨rfl, rfl, hI⟩
  · have f32 : iv 0 (-1) x1 := (iv_of3 (Classical.not_not.mp c29).1 gf15)
    exact iv_no f32 (by decide)
set_option maxHeartbeats 4000000 in
set_option maxRecDepth 100000 in
theorem cz_X7_gain (σ : SS) (x1 : Int32) (x2 : Int32) (hI : Inv σ) (gf15 : iv 0 0 (ac_gi σ 15)) : ConI yX7_gain cX7_gain 3 (some .int) 5 (some 30) [.int x1, .int x2] σ (fun r σ' => (r = (-1000000 : Int32) ∧ σ = σ' ∧ Inv σ')) := by
  refine conI_of (by decide) (fun q => Nat.le_of_ble_eq_true rfl) (fun E C en hR => ?_)
  refine at_aload_n C 0 dX7_gain_0 rfl ?_
  refine at_iload_n C 1 dX7_gain_1 rfl ?_
  refine at_Vi C (As := [.int x1]) (st := []) (b := 30) (ci := 7) (ct_X7_noOld σ x1 hI) mb_X7_noOld ml_X7_175 rfl rfl rfl (by decide) rfl (Nat.le_of_ble_eq_true rfl) dX7_gain_2 ?_
  rintro _ _ ⟨rfl, ⟨rfl, c29⟩ | ⟨rfl, c29⟩⟩
  · refine at_if_ne C 20 dX7_gain_5 (by decide) (fun c31 => ?_) (fun c31 => absurd c31 (iv_xeq (iv_c (c := 1) (x := (1 : Int32)) (by decide)) (iv_c (c := 0) (x := (0 : Int32)) (by decide)) (by decide)))
    refine at_ldc C (-1000000 : Int32) dX7_gain_20 kc_X7_178 ?_
    exact hR _ _ _ _ dX7_gain_22 ⟨rfl, rfl, hI⟩
  · have f32 : iv 0 (-1) x1 := (iv_of3 (Classical.not_not.mp c29).1 gf15)
    exact iv_no f32 (by decide)
set_option maxHeartbeats 4000000 in
set_option maxRecDepth 100000 in
theorem cz_X7_most (σ : SS) (x1 : Int32) (x2 : Int32) (x3 : Int32) (x4 : Int32) (hI : Inv σ) (gf15 : iv 0 0 (ac_gi σ 15)) : ConI yX7_most cX7_most 10 (some .int) 5 (some 30) [.int x1, .int x2, .int x3, .int x4] σ (fun r σ' => (r = (-1000000 : Int32) ∧ σ = σ' ∧ Inv σ')) := by
  refine conI_of (by decide) (fun q => Nat.le_of_ble_eq_true rfl) (fun E C en hR => ?_)
  have hn5 : 5 < e_n E := by rw [en]; decide
  have hn6 : 6 < e_n E := by rw [en]; decide
  have hn7 : 7 < e_n E := by rw [en]; decide
  have hn8 : 8 < e_n E := by rw [en]; decide
  have hn9 : 9 < e_n E := by rw [en]; decide
  refine at_aload_n C 0 dX7_most_0 rfl ?_
  refine at_iload_n C 1 dX7_most_1 rfl ?_
  refine at_Vi C (As := [.int x1]) (st := []) (b := 30) (ci := 7) (ct_X7_noOld σ x1 hI) mb_X7_noOld ml_X7_175 rfl rfl rfl (by decide) rfl (Nat.le_of_ble_eq_true rfl) dX7_most_2 ?_
  rintro _ _ ⟨rfl, ⟨rfl, c29⟩ | ⟨rfl, c29⟩⟩
  · refine at_if_ne C 51 dX7_most_5 (by decide) (fun c31 => ?_) (fun c31 => absurd c31 (iv_xeq (iv_c (c := 1) (x := (1 : Int32)) (by decide)) (iv_c (c := 0) (x := (0 : Int32)) (by decide)) (by decide)))
    refine at_ldc C (-1000000 : Int32) dX7_most_51 kc_X7_178 ?_
    exact hR _ _ _ _ dX7_most_53 ⟨rfl, rfl, hI⟩
  · have f32 : iv 0 (-1) x1 := (iv_of3 (Classical.not_not.mp c29).1 gf15)
    exact iv_no f32 (by decide)
set_option maxHeartbeats 4000000 in
set_option maxRecDepth 100000 in
theorem cz_X7_tower (σ : SS) (x1 : Int32) (x2 : Int32) (hI : Inv σ) (gf15 : iv 0 0 (ac_gi σ 15)) : ConI yX7_tower cX7_tower 3 (some .int) 2 (some 30) [.int x1, .int x2] σ (fun r σ' => (r = (-2 : Int32) ∧ σ = σ' ∧ Inv σ')) := by
  refine conI_of (by decide) (fun q => Nat.le_of_ble_eq_true rfl) (fun E C en hR => ?_)
  refine at_aload_n C 0 dX7_tower_0 rfl ?_
  refine at_iload_n C 1 dX7_tower_1 rfl ?_
  refine at_Vi C (As := [.int x1]) (st := []) (b := 30) (ci := 7) (ct_X7_noMast σ x1 hI) mb_X7_noMast ml_X7_96 rfl rfl rfl (by decide) rfl (Nat.le_of_ble_eq_true rfl) dX7_tower_2 ?_
  rintro _ _ ⟨rfl, ⟨rfl, c29⟩ | ⟨rfl, c29⟩⟩
  · refine at_if_ne C 20 dX7_tower_5 (by decide) (fun c31 => ?_) (fun c31 => absurd c31 (iv_xeq (iv_c (c := 1) (x := (1 : Int32)) (by decide)) (iv_c (c := 0) (x := (0 : Int32)) (by decide)) (by decide)))
    refine at_bipush C (-2 : Int32) dX7_tower_20 (by decide) ?_
    refine at_goto C 31 dX7_tower_22 (by decide) ?_
    exact hR _ _ _ _ dX7_tower_31 ⟨rfl, rfl, hI⟩
  · have f32 : iv 0 (-1) x1 := (iv_of3 (Classical.not_not.mp c29) gf15)
    exact iv_no f32 (by decide)
set_option maxHeartbeats 4000000 in
set_option maxRecDepth 100000 in
theorem cz_X7_free (σ : SS) (x1 : Int32) (hI : Inv σ) (gf15 : iv 0 0 (ac_gi σ 15)) : ConI yX7_free cX7_free 4 (some .int) 2 (some 30) [.int x1] σ (fun r σ' => (r = (-2 : Int32) ∧ σ = σ' ∧ Inv σ')) := by
  refine conI_of (by decide) (fun q => Nat.le_of_ble_eq_true rfl) (fun E C en hR => ?_)
  have hn2 : 2 < e_n E := by rw [en]; decide
  have hn3 : 3 < e_n E := by rw [en]; decide
  refine at_aload_n C 0 dX7_free_0 rfl ?_
  refine at_iload_n C 1 dX7_free_1 rfl ?_
  refine at_Vi C (As := [.int x1]) (st := []) (b := 30) (ci := 7) (ct_X7_noMast σ x1 hI) mb_X7_noMast ml_X7_96 rfl rfl rfl (by decide) rfl (Nat.le_of_ble_eq_true rfl) dX7_free_2 ?_
  rintro _ _ ⟨rfl, ⟨rfl, c29⟩ | ⟨rfl, c29⟩⟩
  · refine at_if_eq C 11 dX7_free_5 (by decide) (fun c31 => absurd c31 (iv_xeq (iv_c (c := 1) (x := (1 : Int32)) (by decide)) (iv_c (c := 0) (x := (0 : Int32)) (by decide)) (by decide))) (fun c31 => ?_)
    refine at_bipush C (-2 : Int32) dX7_free_8 (by decide) ?_
    exact hR _ _ _ _ dX7_free_10 ⟨rfl, rfl, hI⟩
  · have f32 : iv 0 (-1) x1 := (iv_of3 (Classical.not_not.mp c29) gf15)
    exact iv_no f32 (by decide)
set_option maxHeartbeats 4000000 in
set_option maxRecDepth 100000 in
theorem cz_X7_ones (σ : SS) (x1 : Int32) (hI : Inv σ) (g1 : iv 0 0 x1) : ConI yX7_ones cX7_ones 3 (some .int) 0 none [.int x1] σ (fun r σ' => (r = (0 : Int32) ∧ σ = σ' ∧ Inv σ')) := by
  refine conI_of (by decide) (fun q => Nat.le_of_ble_eq_true rfl) (fun E C en hR => ?_)
  have hn1 : 1 < e_n E := by rw [en]; decide
  have hn2 : 2 < e_n E := by rw [en]; decide
  refine at_iconst C (0 : Int32) dX7_ones_0 (by decide) ?_
  refine at_istore_n C (lv' := [(1, .int (0 : Int32)), (0, .int x1)]) dX7_ones_1 hn1 rfl ?_
  refine at_iconst C (0 : Int32) dX7_ones_2 (by decide) ?_
  refine at_istore_n C (lv' := [(2, .int (0 : Int32)), (1, .int (0 : Int32)), (0, .int x1)]) dX7_ones_3 hn2 rfl ?_
  refine at_iload_n C 0 dX7_ones_4 rfl ?_
  refine at_bipush C (16 : Int32) dX7_ones_5 (by decide) ?_
  refine at_icmp_ge C 24 dX7_ones_7 (by decide) (fun c120 => absurd c120 (iv_xle (iv_c (c := 16) (x := (16 : Int32)) (by decide)) (iv_c (c := 0) (x := (0 : Int32)) (by decide)) (by decide))) (fun c120 => ?_)
  refine at_iload_n C 1 dX7_ones_10 rfl ?_
  refine at_iload_n C 2 dX7_ones_11 rfl ?_
  refine at_iload_n C 0 dX7_ones_12 rfl ?_
  refine at_ishr C dX7_ones_13 ?_
  refine at_iconst C (1 : Int32) dX7_ones_14 (by decide) ?_
  refine at_iand C dX7_ones_15 ?_
  refine at_iadd C dX7_ones_16 ?_
  refine at_istore_n C (lv' := [(1, .int ((0 : Int32) + ((x1 >>> ((0 : Int32) &&& 31)) &&& (1 : Int32)))), (2, .int (0 : Int32)), (0, .int x1)]) dX7_ones_17 hn1 rfl ?_
  refine at_iinc C (v := ((0 : Int32) + (1 : Int32))) (lv' := [(2, .int ((0 : Int32) + (1 : Int32))), (1, .int ((0 : Int32) + ((x1 >>> ((0 : Int32) &&& 31)) &&& (1 : Int32)))), (0, .int x1)]) 1 dX7_ones_18 rfl rfl hn2 rfl ?_
  refine at_goto C 4 dX7_ones_21 (by decide) ?_
  refine at_iload_n C 0 dX7_ones_4 rfl ?_
  refine at_bipush C (16 : Int32) dX7_ones_5 (by decide) ?_
  refine at_icmp_ge C 24 dX7_ones_7 (by decide) (fun c121 => absurd c121 (iv_xle (iv_c (c := 16) (x := (16 : Int32)) (by decide)) (iv_add (iv_c (c := 0) (x := (0 : Int32)) (by decide)) (iv_c (c := 1) (x := (1 : Int32)) (by decide)) (by decide) (by decide)) (by decide))) (fun c121 => ?_)
  refine at_iload_n C 1 dX7_ones_10 rfl ?_
  refine at_iload_n C 2 dX7_ones_11 rfl ?_
  refine at_iload_n C 0 dX7_ones_12 rfl ?_
  refine at_ishr C dX7_ones_13 ?_
  refine at_iconst C (1 : Int32) dX7_ones_14 (by decide) ?_
  refine at_iand C dX7_ones_15 ?_
  refine at_iadd C dX7_ones_16 ?_
  refine at_istore_n C (lv' := [(1, .int (((0 : Int32) + ((x1 >>> ((0 : Int32) &&& 31)) &&& (1 : Int32))) + ((x1 >>> (((0 : Int32) + (1 : Int32)) &&& 31)) &&& (1 : Int32)))), (2, .int ((0 : Int32) + (1 : Int32))), (0, .int x1)]) dX7_ones_17 hn1 rfl ?_
  refine at_iinc C (v := (((0 : Int32) + (1 : Int32)) + (1 : Int32))) (lv' := [(2, .int (((0 : Int32) + (1 : Int32)) + (1 : Int32))), (1, .int (((0 : Int32) + ((x1 >>> ((0 : Int32) &&& 31)) &&& (1 : Int32))) + ((x1 >>> (((0 : Int32) + (1 : Int32)) &&& 31)) &&& (1 : Int32)))), (0, .int x1)]) 1 dX7_ones_18 rfl rfl hn2 rfl ?_
  refine at_goto C 4 dX7_ones_21 (by decide) ?_
  refine at_iload_n C 0 dX7_ones_4 rfl ?_
  refine at_bipush C (16 : Int32) dX7_ones_5 (by decide) ?_
  refine at_icmp_ge C 24 dX7_ones_7 (by decide) (fun c122 => absurd c122 (iv_xle (iv_c (c := 16) (x := (16 : Int32)) (by decide)) (iv_add (iv_add (iv_c (c := 0) (x := (0 : Int32)) (by decide)) (iv_c (c := 1) (x := (1 : Int32)) (by decide)) (by decide) (by decide)) (iv_c (c := 1) (x := (1 : Int32)) (by decide)) (by decide) (by decide)) (by decide))) (fun c122 => ?_)
  refine at_iload_n C 1 dX7_ones_10 rfl ?_
  refine at_iload_n C 2 dX7_ones_11 rfl ?_
  refine at_iload_n C 0 dX7_ones_12 rfl ?_
  refine at_ishr C dX7_ones_13 ?_
  refine at_iconst C (1 : Int32) dX7_ones_14 (by decide) ?_
  refine at_iand C dX7_ones_15 ?_
  refine at_iadd C dX7_ones_16 ?_
  refine at_istore_n C (lv' := [(1, .int ((((0 : Int32) + ((x1 >>> ((0 : Int32) &&& 31)) &&& (1 : Int32))) + ((x1 >>> (((0 : Int32) + (1 : Int32)) &&& 31)) &&& (1 : Int32))) + ((x1 >>> ((((0 : Int32) + (1 : Int32)) + (1 : Int32)) &&& 31)) &&& (1 : Int32)))), (2, .int (((0 : Int32) + (1 : Int32)) + (1 : Int32))), (0, .int x1)]) dX7_ones_17 hn1 rfl ?_
  refine at_iinc C (v := ((((0 : Int32) + (1 : Int32)) + (1 : Int32)) + (1 : Int32))) (lv' := [(2, .int ((((0 : Int32) + (1 : Int32)) + (1 : Int32)) + (1 : Int32))), (1, .int ((((0 : Int32) + ((x1 >>> ((0 : Int32) &&& 31)) &&& (1 : Int32))) + ((x1 >>> (((0 : Int32) + (1 : Int32)) &&& 31)) &&& (1 : Int32))) + ((x1 >>> ((((0 : Int32) + (1 : Int32)) + (1 : Int32)) &&& 31)) &&& (1 : Int32)))), (0, .int x1)]) 1 dX7_ones_18 rfl rfl hn2 rfl ?_
  refine at_goto C 4 dX7_ones_21 (by decide) ?_
  refine at_iload_n C 0 dX7_ones_4 rfl ?_
  refine at_bipush C (16 : Int32) dX7_ones_5 (by decide) ?_
  refine at_icmp_ge C 24 dX7_ones_7 (by decide) (fun c123 => absurd c123 (iv_xle (iv_c (c := 16) (x := (16 : Int32)) (by decide)) (iv_add (iv_add (iv_add (iv_c (c := 0) (x := (0 : Int32)) (by decide)) (iv_c (c := 1) (x := (1 : Int32)) (by decide)) (by decide) (by decide)) (iv_c (c := 1) (x := (1 : Int32)) (by decide)) (by decide) (by decide)) (iv_c (c := 1) (x := (1 : Int32)) (by decide)) (by decide) (by decide)) (by decide))) (fun c123 => ?_)
  refine at_iload_n C 1 dX7_ones_10 rfl ?_
  refine at_iload_n C 2 dX7_ones_11 rfl ?_
  refine at_iload_n C 0 dX7_ones_12 rfl ?_
  refine at_ishr C dX7_ones_13 ?_
  refine at_iconst C (1 : Int32) dX7_ones_14 (by decide) ?_
  refine at_iand C dX7_ones_15 ?_
  refine at_iadd C dX7_ones_16 ?_
  refine at_istore_n C (lv' := [(1, .int (((((0 : Int32) + ((x1 >>> ((0 : Int32) &&& 31)) &&& (1 : Int32))) + ((x1 >>> (((0 : Int32) + (1 : Int32)) &&& 31)) &&& (1 : Int32))) + ((x1 >>> ((((0 : Int32) + (1 : Int32)) + (1 : Int32)) &&& 31)) &&& (1 : Int32))) + ((x1 >>> (((((0 : Int32) + (1 : Int32)) + (1 : Int32)) + (1 : Int32)) &&& 31)) &&& (1 : Int32)))), (2, .int ((((0 : Int32) + (1 : Int32)) + (1 : Int32)) + (1 : Int32))), (0, .int x1)]) dX7_ones_17 hn1 rfl ?_
  refine at_iinc C (v := (((((0 : Int32) + (1 : Int32)) + (1 : Int32)) + (1 : Int32)) + (1 : Int32))) (lv' := [(2, .int (((((0 : Int32) + (1 : Int32)) + (1 : Int32)) + (1 : Int32)) + (1 : Int32))), (1, .int (((((0 : Int32) + ((x1 >>> ((0 : Int32) &&& 31)) &&& (1 : Int32))) + ((x1 >>> (((0 : Int32) + (1 : Int32)) &&& 31)) &&& (1 : Int32))) + ((x1 >>> ((((0 : Int32) + (1 : Int32)) + (1 : Int32)) &&& 31)) &&& (1 : Int32))) + ((x1 >>> (((((0 : Int32) + (1 : Int32)) + (1 : Int32)) + (1 : Int32)) &&& 31)) &&& (1 : Int32)))), (0, .int x1)]) 1 dX7_ones_18 rfl rfl hn2 rfl ?_
  refine at_goto C 4 dX7_ones_21 (by decide) ?_
  refine at_iload_n C 0 dX7_ones_4 rfl ?_
  refine at_bipush C (16 : Int32) dX7_ones_5 (by decide) ?_
  refine at_icmp_ge C 24 dX7_ones_7 (by decide) (fun c124 => absurd c124 (iv_xle (iv_c (c := 16) (x := (16 : Int32)) (by decide)) (iv_add (iv_add (iv_add (iv_add (iv_c (c := 0) (x := (0 : Int32)) (by decide)) (iv_c (c := 1) (x := (1 : Int32)) (by decide)) (by decide) (by decide)) (iv_c (c := 1) (x := (1 : Int32)) (by decide)) (by decide) (by decide)) (iv_c (c := 1) (x := (1 : Int32)) (by decide)) (by decide) (by decide)) (iv_c (c := 1) (x := (1 : Int32)) (by decide)) (by decide) (by decide)) (by decide))) (fun c124 => ?_)
  refine at_iload_n C 1 dX7_ones_10 rfl ?_
  refine at_iload_n C 2 dX7_ones_11 rfl ?_
  refine at_iload_n C 0 dX7_ones_12 rfl ?_
  refine at_ishr C dX7_ones_13 ?_
  refine at_iconst C (1 : Int32) dX7_ones_14 (by decide) ?_
  refine at_iand C dX7_ones_15 ?_
  refine at_iadd C dX7_ones_16 ?_
  refine at_istore_n C (lv' := [(1, .int ((((((0 : Int32) + ((x1 >>> ((0 : Int32) &&& 31)) &&& (1 : Int32))) + ((x1 >>> (((0 : Int32) + (1 : Int32)) &&& 31)) &&& (1 : Int32))) + ((x1 >>> ((((0 : Int32) + (1 : Int32)) + (1 : Int32)) &&& 31)) &&& (1 : Int32))) + ((x1 >>> (((((0 : Int32) + (1 : Int32)) + (1 : Int32)) + (1 : Int32)) &&& 31)) &&& (1 : Int32))) + ((x1 >>> ((((((0 : Int32) + (1 : Int32)) + (1 : Int32)) + (1 : Int32)) + (1 : Int32)) &&& 31)) &&& (1 : Int32)))), (2, .int (((((0 : Int32) + (1 : Int32)) + (1 : Int32)) + (1 : Int32)) + (1 : Int32))), (0, .int x1)]) dX7_ones_17 hn1 rfl ?_
  refine at_iinc C (v := ((((((0 : Int32) + (1 : Int32)) + (1 : Int32)) + (1 : Int32)) + (1 : Int32)) + (1 : Int32))) (lv' := [(2, .int ((((((0 : Int32) + (1 : Int32)) + (1 : Int32)) + (1 : Int32)) + (1 : Int32)) + (1 : Int32))), (1, .int ((((((0 : Int32) + ((x1 >>> ((0 : Int32) &&& 31)) &&& (1 : Int32))) + ((x1 >>> (((0 : Int32) + (1 : Int32)) &&& 31)) &&& (1 : Int32))) + ((x1 >>> ((((0 : Int32) + (1 : Int32)) + (1 : Int32)) &&& 31)) &&& (1 : Int32))) + ((x1 >>> (((((0 : Int32) + (1 : Int32)) + (1 : Int32)) + (1 : Int32)) &&& 31)) &&& (1 : Int32))) + ((x1 >>> ((((((0 : Int32) + (1 : Int32)) + (1 : Int32)) + (1 : Int32)) + (1 : Int32)) &&& 31)) &&& (1 : Int32)))), (0, .int x1)]) 1 dX7_ones_18 rfl rfl hn2 rfl ?_
  refine at_goto C 4 dX7_ones_21 (by decide) ?_
  refine at_iload_n C 0 dX7_ones_4 rfl ?_
  refine at_bipush C (16 : Int32) dX7_ones_5 (by decide) ?_
  refine at_icmp_ge C 24 dX7_ones_7 (by decide) (fun c125 => absurd c125 (iv_xle (iv_c (c := 16) (x := (16 : Int32)) (by decide)) (iv_add (iv_add (iv_add (iv_add (iv_add (iv_c (c := 0) (x := (0 : Int32)) (by decide)) (iv_c (c := 1) (x := (1 : Int32)) (by decide)) (by decide) (by decide)) (iv_c (c := 1) (x := (1 : Int32)) (by decide)) (by decide) (by decide)) (iv_c (c := 1) (x := (1 : Int32)) (by decide)) (by decide) (by decide)) (iv_c (c := 1) (x := (1 : Int32)) (by decide)) (by decide) (by decide)) (iv_c (c := 1) (x := (1 : Int32)) (by decide)) (by decide) (by decide)) (by decide))) (fun c125 => ?_)
  refine at_iload_n C 1 dX7_ones_10 rfl ?_
  refine at_iload_n C 2 dX7_ones_11 rfl ?_
  refine at_iload_n C 0 dX7_ones_12 rfl ?_
  refine at_ishr C dX7_ones_13 ?_
  refine at_iconst C (1 : Int32) dX7_ones_14 (by decide) ?_
  refine at_iand C dX7_ones_15 ?_
  refine at_iadd C dX7_ones_16 ?_
  refine at_istore_n C (lv' := [(1, .int (((((((0 : Int32) + ((x1 >>> ((0 : Int32) &&& 31)) &&& (1 : Int32))) + ((x1 >>> (((0 : Int32) + (1 : Int32)) &&& 31)) &&& (1 : Int32))) + ((x1 >>> ((((0 : Int32) + (1 : Int32)) + (1 : Int32)) &&& 31)) &&& (1 : Int32))) + ((x1 >>> (((((0 : Int32) + (1 : Int32)) + (1 : Int32)) + (1 : Int32)) &&& 31)) &&& (1 : Int32))) + ((x1 >>> ((((((0 : Int32) + (1 : Int32)) + (1 : Int32)) + (1 : Int32)) + (1 : Int32)) &&& 31)) &&& (1 : Int32))) + ((x1 >>> (((((((0 : Int32) + (1 : Int32)) + (1 : Int32)) + (1 : Int32)) + (1 : Int32)) + (1 : Int32)) &&& 31)) &&& (1 : Int32)))), (2, .int ((((((0 : Int32) + (1 : Int32)) + (1 : Int32)) + (1 : Int32)) + (1 : Int32)) + (1 : Int32))), (0, .int x1)]) dX7_ones_17 hn1 rfl ?_
  refine at_iinc C (v := (((((((0 : Int32) + (1 : Int32)) + (1 : Int32)) + (1 : Int32)) + (1 : Int32)) + (1 : Int32)) + (1 : Int32))) (lv' := [(2, .int (((((((0 : Int32) + (1 : Int32)) + (1 : Int32)) + (1 : Int32)) + (1 : Int32)) + (1 : Int32)) + (1 : Int32))), (1, .int (((((((0 : Int32) + ((x1 >>> ((0 : Int32) &&& 31)) &&& (1 : Int32))) + ((x1 >>> (((0 : Int32) + (1 : Int32)) &&& 31)) &&& (1 : Int32))) + ((x1 >>> ((((0 : Int32) + (1 : Int32)) + (1 : Int32)) &&& 31)) &&& (1 : Int32))) + ((x1 >>> (((((0 : Int32) + (1 : Int32)) + (1 : Int32)) + (1 : Int32)) &&& 31)) &&& (1 : Int32))) + ((x1 >>> ((((((0 : Int32) + (1 : Int32)) + (1 : Int32)) + (1 : Int32)) + (1 : Int32)) &&& 31)) &&& (1 : Int32))) + ((x1 >>> (((((((0 : Int32) + (1 : Int32)) + (1 : Int32)) + (1 : Int32)) + (1 : Int32)) + (1 : Int32)) &&& 31)) &&& (1 : Int32)))), (0, .int x1)]) 1 dX7_ones_18 rfl rfl hn2 rfl ?_
  refine at_goto C 4 dX7_ones_21 (by decide) ?_
  refine at_iload_n C 0 dX7_ones_4 rfl ?_
  refine at_bipush C (16 : Int32) dX7_ones_5 (by decide) ?_
  refine at_icmp_ge C 24 dX7_ones_7 (by decide) (fun c126 => absurd c126 (iv_xle (iv_c (c := 16) (x := (16 : Int32)) (by decide)) (iv_add (iv_add (iv_add (iv_add (iv_add (iv_add (iv_c (c := 0) (x := (0 : Int32)) (by decide)) (iv_c (c := 1) (x := (1 : Int32)) (by decide)) (by decide) (by decide)) (iv_c (c := 1) (x := (1 : Int32)) (by decide)) (by decide) (by decide)) (iv_c (c := 1) (x := (1 : Int32)) (by decide)) (by decide) (by decide)) (iv_c (c := 1) (x := (1 : Int32)) (by decide)) (by decide) (by decide)) (iv_c (c := 1) (x := (1 : Int32)) (by decide)) (by decide) (by decide)) (iv_c (c := 1) (x := (1 : Int32)) (by decide)) (by decide) (by decide)) (by decide))) (fun c126 => ?_)
  refine at_iload_n C 1 dX7_ones_10 rfl ?_
  refine at_iload_n C 2 dX7_ones_11 rfl ?_
  refine at_iload_n C 0 dX7_ones_12 rfl ?_
  refine at_ishr C dX7_ones_13 ?_
  refine at_iconst C (1 : Int32) dX7_ones_14 (by decide) ?_
  refine at_iand C dX7_ones_15 ?_
  refine at_iadd C dX7_ones_16 ?_
  refine at_istore_n C (lv' := [(1, .int ((((((((0 : Int32) + ((x1 >>> ((0 : Int32) &&& 31)) &&& (1 : Int32))) + ((x1 >>> (((0 : Int32) + (1 : Int32)) &&& 31)) &&& (1 : Int32))) + ((x1 >>> ((((0 : Int32) + (1 : Int32)) + (1 : Int32)) &&& 31)) &&& (1 : Int32))) + ((x1 >>> (((((0 : Int32) + (1 : Int32)) + (1 : Int32)) + (1 : Int32)) &&& 31)) &&& (1 : Int32))) + ((x1 >>> ((((((0 : Int32) + (1 : Int32)) + (1 : Int32)) + (1 : Int32)) + (1 : Int32)) &&& 31)) &&& (1 : Int32))) + ((x1 >>> (((((((0 : Int32) + (1 : Int32)) + (1 : Int32)) + (1 : Int32)) + (1 : Int32)) + (1 : Int32)) &&& 31)) &&& (1 : Int32))) + ((x1 >>> ((((((((0 : Int32) + (1 : Int32)) + (1 : Int32)) + (1 : Int32)) + (1 : Int32)) + (1 : Int32)) + (1 : Int32)) &&& 31)) &&& (1 : Int32)))), (2, .int (((((((0 : Int32) + (1 : Int32)) + (1 : Int32)) + (1 : Int32)) + (1 : Int32)) + (1 : Int32)) + (1 : Int32))), (0, .int x1)]) dX7_ones_17 hn1 rfl ?_
  refine at_iinc C (v := ((((((((0 : Int32) + (1 : Int32)) + (1 : Int32)) + (1 : Int32)) + (1 : Int32)) + (1 : Int32)) + (1 : Int32)) + (1 : Int32))) (lv' := [(2, .int ((((((((0 : Int32) + (1 : Int32)) + (1 : Int32)) + (1 : Int32)) + (1 : Int32)) + (1 : Int32)) + (1 : Int32)) + (1 : Int32))), (1, .int ((((((((0 : Int32) + ((x1 >>> ((0 : Int32) &&& 31)) &&& (1 : Int32))) + ((x1 >>> (((0 : Int32) + (1 : Int32)) &&& 31)) &&& (1 : Int32))) + ((x1 >>> ((((0 : Int32) + (1 : Int32)) + (1 : Int32)) &&& 31)) &&& (1 : Int32))) + ((x1 >>> (((((0 : Int32) + (1 : Int32)) + (1 : Int32)) + (1 : Int32)) &&& 31)) &&& (1 : Int32))) + ((x1 >>> ((((((0 : Int32) + (1 : Int32)) + (1 : Int32)) + (1 : Int32)) + (1 : Int32)) &&& 31)) &&& (1 : Int32))) + ((x1 >>> (((((((0 : Int32) + (1 : Int32)) + (1 : Int32)) + (1 : Int32)) + (1 : Int32)) + (1 : Int32)) &&& 31)) &&& (1 : Int32))) + ((x1 >>> ((((((((0 : Int32) + (1 : Int32)) + (1 : Int32)) + (1 : Int32)) + (1 : Int32)) + (1 : Int32)) + (1 : Int32)) &&& 31)) &&& (1 : Int32)))), (0, .int x1)]) 1 dX7_ones_18 rfl rfl hn2 rfl ?_
  refine at_goto C 4 dX7_ones_21 (by decide) ?_
  refine at_iload_n C 0 dX7_ones_4 rfl ?_
  refine at_bipush C (16 : Int32) dX7_ones_5 (by decide) ?_
  refine at_icmp_ge C 24 dX7_ones_7 (by decide) (fun c127 => absurd c127 (iv_xle (iv_c (c := 16) (x := (16 : Int32)) (by decide)) (iv_add (iv_add (iv_add (iv_add (iv_add (iv_add (iv_add (iv_c (c := 0) (x := (0 : Int32)) (by decide)) (iv_c (c := 1) (x := (1 : Int32)) (by decide)) (by decide) (by decide)) (iv_c (c := 1) (x := (1 : Int32)) (by decide)) (by decide) (by decide)) (iv_c (c := 1) (x := (1 : Int32)) (by decide)) (by decide) (by decide)) (iv_c (c := 1) (x := (1 : Int32)) (by decide)) (by decide) (by decide)) (iv_c (c := 1) (x := (1 : Int32)) (by decide)) (by decide) (by decide)) (iv_c (c := 1) (x := (1 : Int32)) (by decide)) (by decide) (by decide)) (iv_c (c := 1) (x := (1 : Int32)) (by decide)) (by decide) (by decide)) (by decide))) (fun c127 => ?_)
  refine at_iload_n C 1 dX7_ones_10 rfl ?_
  refine at_iload_n C 2 dX7_ones_11 rfl ?_
  refine at_iload_n C 0 dX7_ones_12 rfl ?_
  refine at_ishr C dX7_ones_13 ?_
  refine at_iconst C (1 : Int32) dX7_ones_14 (by decide) ?_
  refine at_iand C dX7_ones_15 ?_
  refine at_iadd C dX7_ones_16 ?_
  refine at_istore_n C (lv' := [(1, .int (((((((((0 : Int32) + ((x1 >>> ((0 : Int32) &&& 31)) &&& (1 : Int32))) + ((x1 >>> (((0 : Int32) + (1 : Int32)) &&& 31)) &&& (1 : Int32))) + ((x1 >>> ((((0 : Int32) + (1 : Int32)) + (1 : Int32)) &&& 31)) &&& (1 : Int32))) + ((x1 >>> (((((0 : Int32) + (1 : Int32)) + (1 : Int32)) + (1 : Int32)) &&& 31)) &&& (1 : Int32))) + ((x1 >>> ((((((0 : Int32) + (1 : Int32)) + (1 : Int32)) + (1 : Int32)) + (1 : Int32)) &&& 31)) &&& (1 : Int32))) + ((x1 >>> (((((((0 : Int32) + (1 : Int32)) + (1 : Int32)) + (1 : Int32)) + (1 : Int32)) + (1 : Int32)) &&& 31)) &&& (1 : Int32))) + ((x1 >>> ((((((((0 : Int32) + (1 : Int32)) + (1 : Int32)) + (1 : Int32)) + (1 : Int32)) + (1 : Int32)) + (1 : Int32)) &&& 31)) &&& (1 : Int32))) + ((x1 >>> (((((((((0 : Int32) + (1 : Int32)) + (1 : Int32)) + (1 : Int32)) + (1 : Int32)) + (1 : Int32)) + (1 : Int32)) + (1 : Int32)) &&& 31)) &&& (1 : Int32)))), (2, .int ((((((((0 : Int32) + (1 : Int32)) + (1 : Int32)) + (1 : Int32)) + (1 : Int32)) + (1 : Int32)) + (1 : Int32)) + (1 : Int32))), (0, .int x1)]) dX7_ones_17 hn1 rfl ?_
  refine at_iinc C (v := (((((((((0 : Int32) + (1 : Int32)) + (1 : Int32)) + (1 : Int32)) + (1 : Int32)) + (1 : Int32)) + (1 : Int32)) + (1 : Int32)) + (1 : Int32))) (lv' := [(2, .int (((((((((0 : Int32) + (1 : Int32)) + (1 : Int32)) + (1 : Int32)) + (1 : Int32)) + (1 : Int32)) + (1 : Int32)) + (1 : Int32)) + (1 : Int32))), (1, .int (((((((((0 : Int32) + ((x1 >>> ((0 : Int32) &&& 31)) &&& (1 : Int32))) + ((x1 >>> (((0 : Int32) + (1 : Int32)) &&& 31)) &&& (1 : Int32))) + ((x1 >>> ((((0 : Int32) + (1 : Int32)) + (1 : Int32)) &&& 31)) &&& (1 : Int32))) + ((x1 >>> (((((0 : Int32) + (1 : Int32)) + (1 : Int32)) + (1 : Int32)) &&& 31)) &&& (1 : Int32))) + ((x1 >>> ((((((0 : Int32) + (1 : Int32)) + (1 : Int32)) + (1 : Int32)) + (1 : Int32)) &&& 31)) &&& (1 : Int32))) + ((x1 >>> (((((((0 : Int32) + (1 : Int32)) + (1 : Int32)) + (1 : Int32)) + (1 : Int32)) + (1 : Int32)) &&& 31)) &&& (1 : Int32))) + ((x1 >>> ((((((((0 : Int32) + (1 : Int32)) + (1 : Int32)) + (1 : Int32)) + (1 : Int32)) + (1 : Int32)) + (1 : Int32)) &&& 31)) &&& (1 : Int32))) + ((x1 >>> (((((((((0 : Int32) + (1 : Int32)) + (1 : Int32)) + (1 : Int32)) + (1 : Int32)) + (1 : Int32)) + (1 : Int32)) + (1 : Int32)) &&& 31)) &&& (1 : Int32)))), (0, .int x1)]) 1 dX7_ones_18 rfl rfl hn2 rfl ?_
  refine at_goto C 4 dX7_ones_21 (by decide) ?_
  refine at_iload_n C 0 dX7_ones_4 rfl ?_
  refine at_bipush C (16 : Int32) dX7_ones_5 (by decide) ?_
  refine at_icmp_ge C 24 dX7_ones_7 (by decide) (fun c128 => absurd c128 (iv_xle (iv_c (c := 16) (x := (16 : Int32)) (by decide)) (iv_add (iv_add (iv_add (iv_add (iv_add (iv_add (iv_add (iv_add (iv_c (c := 0) (x := (0 : Int32)) (by decide)) (iv_c (c := 1) (x := (1 : Int32)) (by decide)) (by decide) (by decide)) (iv_c (c := 1) (x := (1 : Int32)) (by decide)) (by decide) (by decide)) (iv_c (c := 1) (x := (1 : Int32)) (by decide)) (by decide) (by decide)) (iv_c (c := 1) (x := (1 : Int32)) (by decide)) (by decide) (by decide)) (iv_c (c := 1) (x := (1 : Int32)) (by decide)) (by decide) (by decide)) (iv_c (c := 1) (x := (1 : Int32)) (by decide)) (by decide) (by decide)) (iv_c (c := 1) (x := (1 : Int32)) (by decide)) (by decide) (by decide)) (iv_c (c := 1) (x := (1 : Int32)) (by decide)) (by decide) (by decide)) (by decide))) (fun c128 => ?_)
  refine at_iload_n C 1 dX7_ones_10 rfl ?_
  refine at_iload_n C 2 dX7_ones_11 rfl ?_
  refine at_iload_n C 0 dX7_ones_12 rfl ?_
  refine at_ishr C dX7_ones_13 ?_
  refine at_iconst C (1 : Int32) dX7_ones_14 (by decide) ?_
  refine at_iand C dX7_ones_15 ?_
  refine at_iadd C dX7_ones_16 ?_
  refine at_istore_n C (lv' := [(1, .int ((((((((((0 : Int32) + ((x1 >>> ((0 : Int32) &&& 31)) &&& (1 : Int32))) + ((x1 >>> (((0 : Int32) + (1 : Int32)) &&& 31)) &&& (1 : Int32))) + ((x1 >>> ((((0 : Int32) + (1 : Int32)) + (1 : Int32)) &&& 31)) &&& (1 : Int32))) + ((x1 >>> (((((0 : Int32) + (1 : Int32)) + (1 : Int32)) + (1 : Int32)) &&& 31)) &&& (1 : Int32))) + ((x1 >>> ((((((0 : Int32) + (1 : Int32)) + (1 : Int32)) + (1 : Int32)) + (1 : Int32)) &&& 31)) &&& (1 : Int32))) + ((x1 >>> (((((((0 : Int32) + (1 : Int32)) + (1 : Int32)) + (1 : Int32)) + (1 : Int32)) + (1 : Int32)) &&& 31)) &&& (1 : Int32))) + ((x1 >>> ((((((((0 : Int32) + (1 : Int32)) + (1 : Int32)) + (1 : Int32)) + (1 : Int32)) + (1 : Int32)) + (1 : Int32)) &&& 31)) &&& (1 : Int32))) + ((x1 >>> (((((((((0 : Int32) + (1 : Int32)) + (1 : Int32)) + (1 : Int32)) + (1 : Int32)) + (1 : Int32)) + (1 : Int32)) + (1 : Int32)) &&& 31)) &&& (1 : Int32))) + ((x1 >>> ((((((((((0 : Int32) + (1 : Int32)) + (1 : Int32)) + (1 : Int32)) + (1 : Int32)) + (1 : Int32)) + (1 : Int32)) + (1 : Int32)) + (1 : Int32)) &&& 31)) &&& (1 : Int32)))), (2, .int (((((((((0 : Int32) + (1 : Int32)) + (1 : Int32)) + (1 : Int32)) + (1 : Int32)) + (1 : Int32)) + (1 : Int32)) + (1 : Int32)) + (1 : Int32))), (0, .int x1)]) dX7_ones_17 hn1 rfl ?_
  refine at_iinc C (v := ((((((((((0 : Int32) + (1 : Int32)) + (1 : Int32)) + (1 : Int32)) + (1 : Int32)) + (1 : Int32)) + (1 : Int32)) + (1 : Int32)) + (1 : Int32)) + (1 : Int32))) (lv' := [(2, .int ((((((((((0 : Int32) + (1 : Int32)) + (1 : Int32)) + (1 : Int32)) + (1 : Int32)) + (1 : Int32)) + (1 : Int32)) + (1 : Int32)) + (1 : Int32)) + (1 : Int32))), (1, .int ((((((((((0 : Int32) + ((x1 >>> ((0 : Int32) &&& 31)) &&& (1 : Int32))) + ((x1 >>> (((0 : Int32) + (1 : Int32)) &&& 31)) &&& (1 : Int32))) + ((x1 >>> ((((0 : Int32) + (1 : Int32)) + (1 : Int32)) &&& 31)) &&& (1 : Int32))) + ((x1 >>> (((((0 : Int32) + (1 : Int32)) + (1 : Int32)) + (1 : Int32)) &&& 31)) &&& (1 : Int32))) + ((x1 >>> ((((((0 : Int32) + (1 : Int32)) + (1 : Int32)) + (1 : Int32)) + (1 : Int32)) &&& 31)) &&& (1 : Int32))) + ((x1 >>> (((((((0 : Int32) + (1 : Int32)) + (1 : Int32)) + (1 : Int32)) + (1 : Int32)) + (1 : Int32)) &&& 31)) &&& (1 : Int32))) + ((x1 >>> ((((((((0 : Int32) + (1 : Int32)) + (1 : Int32)) + (1 : Int32)) + (1 : Int32)) + (1 : Int32)) + (1 : Int32)) &&& 31)) &&& (1 : Int32))) + ((x1 >>> (((((((((0 : Int32) + (1 : Int32)) + (1 : Int32)) + (1 : Int32)) + (1 : Int32)) + (1 : Int32)) + (1 : Int32)) + (1 : Int32)) &&& 31)) &&& (1 : Int32))) + ((x1 >>> ((((((((((0 : Int32) + (1 : Int32)) + (1 : Int32)) + (1 : Int32)) + (1 : Int32)) + (1 : Int32)) + (1 : Int32)) + (1 : Int32)) + (1 : Int32)) &&& 31)) &&& (1 : Int32)))), (0, .int x1)]) 1 dX7_ones_18 rfl rfl hn2 rfl ?_
  refine at_goto C 4 dX7_ones_21 (by decide) ?_
  refine at_iload_n C 0 dX7_ones_4 rfl ?_
  refine at_bipush C (16 : Int32) dX7_ones_5 (by decide) ?_
  refine at_icmp_ge C 24 dX7_ones_7 (by decide) (fun c129 => absurd c129 (iv_xle (iv_c (c := 16) (x := (16 : Int32)) (by decide)) (iv_add (iv_add (iv_add (iv_add (iv_add (iv_add (iv_add (iv_add (iv_add (iv_c (c := 0) (x := (0 : Int32)) (by decide)) (iv_c (c := 1) (x := (1 : Int32)) (by decide)) (by decide) (by decide)) (iv_c (c := 1) (x := (1 : Int32)) (by decide)) (by decide) (by decide)) (iv_c (c := 1) (x := (1 : Int32)) (by decide)) (by decide) (by decide)) (iv_c (c := 1) (x := (1 : Int32)) (by decide)) (by decide) (by decide)) (iv_c (c := 1) (x := (1 : Int32)) (by decide)) (by decide) (by decide)) (iv_c (c := 1) (x := (1 : Int32)) (by decide)) (by decide) (by decide)) (iv_c (c := 1) (x := (1 : Int32)) (by decide)) (by decide) (by decide)) (iv_c (c := 1) (x := (1 : Int32)) (by decide)) (by decide) (by decide)) (iv_c (c := 1) (x := (1 : Int32)) (by decide)) (by decide) (by decide)) (by decide))) (fun c129 => ?_)
  refine at_iload_n C 1 dX7_ones_10 rfl ?_
  refine at_iload_n C 2 dX7_ones_11 rfl ?_
  refine at_iload_n C 0 dX7_ones_12 rfl ?_
  refine at_ishr C dX7_ones_13 ?_
  refine at_iconst C (1 : Int32) dX7_ones_14 (by decide) ?_
  refine at_iand C dX7_ones_15 ?_
  refine at_iadd C dX7_ones_16 ?_
  refine at_istore_n C (lv' := [(1, .int (((((((((((0 : Int32) + ((x1 >>> ((0 : Int32) &&& 31)) &&& (1 : Int32))) + ((x1 >>> (((0 : Int32) + (1 : Int32)) &&& 31)) &&& (1 : Int32))) + ((x1 >>> ((((0 : Int32) + (1 : Int32)) + (1 : Int32)) &&& 31)) &&& (1 : Int32))) + ((x1 >>> (((((0 : Int32) + (1 : Int32)) + (1 : Int32)) + (1 : Int32)) &&& 31)) &&& (1 : Int32))) + ((x1 >>> ((((((0 : Int32) + (1 : Int32)) + (1 : Int32)) + (1 : Int32)) + (1 : Int32)) &&& 31)) &&& (1 : Int32))) + ((x1 >>> (((((((0 : Int32) + (1 : Int32)) + (1 : Int32)) + (1 : Int32)) + (1 : Int32)) + (1 : Int32)) &&& 31)) &&& (1 : Int32))) + ((x1 >>> ((((((((0 : Int32) + (1 : Int32)) + (1 : Int32)) + (1 : Int32)) + (1 : Int32)) + (1 : Int32)) + (1 : Int32)) &&& 31)) &&& (1 : Int32))) + ((x1 >>> (((((((((0 : Int32) + (1 : Int32)) + (1 : Int32)) + (1 : Int32)) + (1 : Int32)) + (1 : Int32)) + (1 : Int32)) + (1 : Int32)) &&& 31)) &&& (1 : Int32))) + ((x1 >>> ((((((((((0 : Int32) + (1 : Int32)) + (1 : Int32)) + (1 : Int32)) + (1 : Int32)) + (1 : Int32)) + (1 : Int32)) + (1 : Int32)) + (1 : Int32)) &&& 31)) &&& (1 : Int32))) + ((x1 >>> (((((((((((0 : Int32) + (1 : Int32)) + (1 : Int32)) + (1 : Int32)) + (1 : Int32)) + (1 : Int32)) + (1 : Int32)) + (1 : Int32)) + (1 : Int32)) + (1 : Int32)) &&& 31)) &&& (1 : Int32)))), (2, .int ((((((((((0 : Int32) + (1 : Int32)) + (1 : Int32)) + (1 : Int32)) + (1 : Int32)) + (1 : Int32)) + (1 : Int32)) + (1 : Int32)) + (1 : Int32)) + (1 : Int32))), (0, .int x1)]) dX7_ones_17 hn1 rfl ?_
  refine at_iinc C (v := (((((((((((0 : Int32) + (1 : Int32)) + (1 : Int32)) + (1 : Int32)) + (1 : Int32)) + (1 : Int32)) + (1 : Int32)) + (1 : Int32)) + (1 : Int32)) + (1 : Int32)) + (1 : Int32))) (lv' := [(2, .int (((((((((((0 : Int32) + (1 : Int32)) + (1 : Int32)) + (1 : Int32)) + (1 : Int32)) + (1 : Int32)) + (1 : Int32)) + (1 : Int32)) + (1 : Int32)) + (1 : Int32)) + (1 : Int32))), (1, .int (((((((((((0 : Int32) + ((x1 >>> ((0 : Int32) &&& 31)) &&& (1 : Int32))) + ((x1 >>> (((0 : Int32) + (1 : Int32)) &&& 31)) &&& (1 : Int32))) + ((x1 >>> ((((0 : Int32) + (1 : Int32)) + (1 : Int32)) &&& 31)) &&& (1 : Int32))) + ((x1 >>> (((((0 : Int32) + (1 : Int32)) + (1 : Int32)) + (1 : Int32)) &&& 31)) &&& (1 : Int32))) + ((x1 >>> ((((((0 : Int32) + (1 : Int32)) + (1 : Int32)) + (1 : Int32)) + (1 : Int32)) &&& 31)) &&& (1 : Int32))) + ((x1 >>> (((((((0 : Int32) + (1 : Int32)) + (1 : Int32)) + (1 : Int32)) + (1 : Int32)) + (1 : Int32)) &&& 31)) &&& (1 : Int32))) + ((x1 >>> ((((((((0 : Int32) + (1 : Int32)) + (1 : Int32)) + (1 : Int32)) + (1 : Int32)) + (1 : Int32)) + (1 : Int32)) &&& 31)) &&& (1 : Int32))) + ((x1 >>> (((((((((0 : Int32) + (1 : Int32)) + (1 : Int32)) + (1 : Int32)) + (1 : Int32)) + (1 : Int32)) + (1 : Int32)) + (1 : Int32)) &&& 31)) &&& (1 : Int32))) + ((x1 >>> ((((((((((0 : Int32) + (1 : Int32)) + (1 : Int32)) + (1 : Int32)) + (1 : Int32)) + (1 : Int32)) + (1 : Int32)) + (1 : Int32)) + (1 : Int32)) &&& 31)) &&& (1 : Int32))) + ((x1 >>> (((((((((((0 : Int32) + (1 : Int32)) + (1 : Int32)) + (1 : Int32)) + (1 : Int32)) + (1 : Int32)) + (1 : Int32)) + (1 : Int32)) + (1 : Int32)) + (1 : Int32)) &&& 31)) &&& (1 : Int32)))), (0, .int x1)]) 1 dX7_ones_18 rfl rfl hn2 rfl ?_
  refine at_goto C 4 dX7_ones_21 (by decide) ?_
  refine at_iload_n C 0 dX7_ones_4 rfl ?_
  refine at_bipush C (16 : Int32) dX7_ones_5 (by decide) ?_
  refine at_icmp_ge C 24 dX7_ones_7 (by decide) (fun c130 => absurd c130 (iv_xle (iv_c (c := 16) (x := (16 : Int32)) (by decide)) (iv_add (iv_add (iv_add (iv_add (iv_add (iv_add (iv_add (iv_add (iv_add (iv_add (iv_c (c := 0) (x := (0 : Int32)) (by decide)) (iv_c (c := 1) (x := (1 : Int32)) (by decide)) (by decide) (by decide)) (iv_c (c := 1) (x := (1 : Int32)) (by decide)) (by decide) (by decide)) (iv_c (c := 1) (x := (1 : Int32)) (by decide)) (by decide) (by decide)) (iv_c (c := 1) (x := (1 : Int32)) (by decide)) (by decide) (by decide)) (iv_c (c := 1) (x := (1 : Int32)) (by decide)) (by decide) (by decide)) (iv_c (c := 1) (x := (1 : Int32)) (by decide)) (by decide) (by decide)) (iv_c (c := 1) (x := (1 : Int32)) (by decide)) (by decide) (by decide)) (iv_c (c := 1) (x := (1 : Int32)) (by decide)) (by decide) (by decide)) (iv_c (c := 1) (x := (1 : Int32)) (by decide)) (by decide) (by decide)) (iv_c (c := 1) (x := (1 : Int32)) (by decide)) (by decide) (by decide)) (by decide))) (fun c130 => ?_)
  refine at_iload_n C 1 dX7_ones_10 rfl ?_
  refine at_iload_n C 2 dX7_ones_11 rfl ?_
  refine at_iload_n C 0 dX7_ones_12 rfl ?_
  refine at_ishr C dX7_ones_13 ?_
  refine at_iconst C (1 : Int32) dX7_ones_14 (by decide) ?_
  refine at_iand C dX7_ones_15 ?_
  refine at_iadd C dX7_ones_16 ?_
  refine at_istore_n C (lv' := [(1, .int ((((((((((((0 : Int32) + ((x1 >>> ((0 : Int32) &&& 31)) &&& (1 : Int32))) + ((x1 >>> (((0 : Int32) + (1 : Int32)) &&& 31)) &&& (1 : Int32))) + ((x1 >>> ((((0 : Int32) + (1 : Int32)) + (1 : Int32)) &&& 31)) &&& (1 : Int32))) + ((x1 >>> (((((0 : Int32) + (1 : Int32)) + (1 : Int32)) + (1 : Int32)) &&& 31)) &&& (1 : Int32))) + ((x1 >>> ((((((0 : Int32) + (1 : Int32)) + (1 : Int32)) + (1 : Int32)) + (1 : Int32)) &&& 31)) &&& (1 : Int32))) + ((x1 >>> (((((((0 : Int32) + (1 : Int32)) + (1 : Int32)) + (1 : Int32)) + (1 : Int32)) + (1 : Int32)) &&& 31)) &&& (1 : Int32))) + ((x1 >>> ((((((((0 : Int32) + (1 : Int32)) + (1 : Int32)) + (1 : Int32)) + (1 : Int32)) + (1 : Int32)) + (1 : Int32)) &&& 31)) &&& (1 : Int32))) + ((x1 >>> (((((((((0 : Int32) + (1 : Int32)) + (1 : Int32)) + (1 : Int32)) + (1 : Int32)) + (1 : Int32)) + (1 : Int32)) + (1 : Int32)) &&& 31)) &&& (1 : Int32))) + ((x1 >>> ((((((((((0 : Int32) + (1 : Int32)) + (1 : Int32)) + (1 : Int32)) + (1 : Int32)) + (1 : Int32)) + (1 : Int32)) + (1 : Int32)) + (1 : Int32)) &&& 31)) &&& (1 : Int32))) + ((x1 >>> (((((((((((0 : Int32) + (1 : Int32)) + (1 : Int32)) + (1 : Int32)) + (1 : Int32)) + (1 : Int32)) + (1 : Int32)) + (1 : Int32)) + (1 : Int32)) + (1 : Int32)) &&& 31)) &&& (1 : Int32))) + ((x1 >>> ((((((((((((0 : Int32) + (1 : Int32)) + (1 : Int32)) + (1 : Int32)) + (1 : Int32)) + (1 : Int32)) + (1 : Int32)) + (1 : Int32)) + (1 : Int32)) + (1 : Int32)) + (1 : Int32)) &&& 31)) &&& (1 : Int32)))), (2, .int (((((((((((0 : Int32) + (1 : Int32)) + (1 : Int32)) + (1 : Int32)) + (1 : Int32)) + (1 : Int32)) + (1 : Int32)) + (1 : Int32)) + (1 : Int32)) + (1 : Int32)) + (1 : Int32))), (0, .int x1)]) dX7_ones_17 hn1 rfl ?_
  refine at_iinc C (v := ((((((((((((0 : Int32) + (1 : Int32)) + (1 : Int32)) + (1 : Int32)) + (1 : Int32)) + (1 : Int32)) + (1 : Int32)) + (1 : Int32)) + (1 : Int32)) + (1 : Int32)) + (1 : Int32)) + (1 : Int32))) (lv' := [(2, .int ((((((((((((0 : Int32) + (1 : Int32)) + (1 : Int32)) + (1 : Int32)) + (1 : Int32)) + (1 : Int32)) + (1 : Int32)) + (1 : Int32)) + (1 : Int32)) + (1 : Int32)) + (1 : Int32)) + (1 : Int32))), (1, .int ((((((((((((0 : Int32) + ((x1 >>> ((0 : Int32) &&& 31)) &&& (1 : Int32))) + ((x1 >>> (((0 : Int32) + (1 : Int32)) &&& 31)) &&& (1 : Int32))) + ((x1 >>> ((((0 : Int32) + (1 : Int32)) + (1 : Int32)) &&& 31)) &&& (1 : Int32))) + ((x1 >>> (((((0 : Int32) + (1 : Int32)) + (1 : Int32)) + (1 : Int32)) &&& 31)) &&& (1 : Int32))) + ((x1 >>> ((((((0 : Int32) + (1 : Int32)) + (1 : Int32)) + (1 : Int32)) + (1 : Int32)) &&& 31)) &&& (1 : Int32))) + ((x1 >>> (((((((0 : Int32) + (1 : Int32)) + (1 : Int32)) + (1 : Int32)) + (1 : Int32)) + (1 : Int32)) &&& 31)) &&& (1 : Int32))) + ((x1 >>> ((((((((0 : Int32) + (1 : Int32)) + (1 : Int32)) + (1 : Int32)) + (1 : Int32)) + (1 : Int32)) + (1 : Int32)) &&& 31)) &&& (1 : Int32))) + ((x1 >>> (((((((((0 : Int32) + (1 : Int32)) + (1 : Int32)) + (1 : Int32)) + (1 : Int32)) + (1 : Int32)) + (1 : Int32)) + (1 : Int32)) &&& 31)) &&& (1 : Int32))) + ((x1 >>> ((((((((((0 : Int32) + (1 : Int32)) + (1 : Int32)) + (1 : Int32)) + (1 : Int32)) + (1 : Int32)) + (1 : Int32)) + (1 : Int32)) + (1 : Int32)) &&& 31)) &&& (1 : Int32))) + ((x1 >>> (((((((((((0 : Int32) + (1 : Int32)) + (1 : Int32)) + (1 : Int32)) + (1 : Int32)) + (1 : Int32)) + (1 : Int32)) + (1 : Int32)) + (1 : Int32)) + (1 : Int32)) &&& 31)) &&& (1 : Int32))) + ((x1 >>> ((((((((((((0 : Int32) + (1 : Int32)) + (1 : Int32)) + (1 : Int32)) + (1 : Int32)) + (1 : Int32)) + (1 : Int32)) + (1 : Int32)) + (1 : Int32)) + (1 : Int32)) + (1 : Int32)) &&& 31)) &&& (1 : Int32)))), (0, .int x1)]) 1 dX7_ones_18 rfl rfl hn2 rfl ?_
  refine at_goto C 4 dX7_ones_21 (by decide) ?_
  refine at_iload_n C 0 dX7_ones_4 rfl ?_
  refine at_bipush C (16 : Int32) dX7_ones_5 (by decide) ?_
  refine at_icmp_ge C 24 dX7_ones_7 (by decide) (fun c131 => absurd c131 (iv_xle (iv_c (c := 16) (x := (16 : Int32)) (by decide)) (iv_add (iv_add (iv_add (iv_add (iv_add (iv_add (iv_add (iv_add (iv_add (iv_add (iv_add (iv_c (c := 0) (x := (0 : Int32)) (by decide)) (iv_c (c := 1) (x := (1 : Int32)) (by decide)) (by decide) (by decide)) (iv_c (c := 1) (x := (1 : Int32)) (by decide)) (by decide) (by decide)) (iv_c (c := 1) (x := (1 : Int32)) (by decide)) (by decide) (by decide)) (iv_c (c := 1) (x := (1 : Int32)) (by decide)) (by decide) (by decide)) (iv_c (c := 1) (x := (1 : Int32)) (by decide)) (by decide) (by decide)) (iv_c (c := 1) (x := (1 : Int32)) (by decide)) (by decide) (by decide)) (iv_c (c := 1) (x := (1 : Int32)) (by decide)) (by decide) (by decide)) (iv_c (c := 1) (x := (1 : Int32)) (by decide)) (by decide) (by decide)) (iv_c (c := 1) (x := (1 : Int32)) (by decide)) (by decide) (by decide)) (iv_c (c := 1) (x := (1 : Int32)) (by decide)) (by decide) (by decide)) (iv_c (c := 1) (x := (1 : Int32)) (by decide)) (by decide) (by decide)) (by decide))) (fun c131 => ?_)
  refine at_iload_n C 1 dX7_ones_10 rfl ?_
  refine at_iload_n C 2 dX7_ones_11 rfl ?_
  refine at_iload_n C 0 dX7_ones_12 rfl ?_
  refine at_ishr C dX7_ones_13 ?_
  refine at_iconst C (1 : Int32) dX7_ones_14 (by decide) ?_
  refine at_iand C dX7_ones_15 ?_
  refine at_iadd C dX7_ones_16 ?_
  refine at_istore_n C (lv' := [(1, .int (((((((((((((0 : Int32) + ((x1 >>> ((0 : Int32) &&& 31)) &&& (1 : Int32))) + ((x1 >>> (((0 : Int32) + (1 : Int32)) &&& 31)) &&& (1 : Int32))) + ((x1 >>> ((((0 : Int32) + (1 : Int32)) + (1 : Int32)) &&& 31)) &&& (1 : Int32))) + ((x1 >>> (((((0 : Int32) + (1 : Int32)) + (1 : Int32)) + (1 : Int32)) &&& 31)) &&& (1 : Int32))) + ((x1 >>> ((((((0 : Int32) + (1 : Int32)) + (1 : Int32)) + (1 : Int32)) + (1 : Int32)) &&& 31)) &&& (1 : Int32))) + ((x1 >>> (((((((0 : Int32) + (1 : Int32)) + (1 : Int32)) + (1 : Int32)) + (1 : Int32)) + (1 : Int32)) &&& 31)) &&& (1 : Int32))) + ((x1 >>> ((((((((0 : Int32) + (1 : Int32)) + (1 : Int32)) + (1 : Int32)) + (1 : Int32)) + (1 : Int32)) + (1 : Int32)) &&& 31)) &&& (1 : Int32))) + ((x1 >>> (((((((((0 : Int32) + (1 : Int32)) + (1 : Int32)) + (1 : Int32)) + (1 : Int32)) + (1 : Int32)) + (1 : Int32)) + (1 : Int32)) &&& 31)) &&& (1 : Int32))) + ((x1 >>> ((((((((((0 : Int32) + (1 : Int32)) + (1 : Int32)) + (1 : Int32)) + (1 : Int32)) + (1 : Int32)) + (1 : Int32)) + (1 : Int32)) + (1 : Int32)) &&& 31)) &&& (1 : Int32))) + ((x1 >>> (((((((((((0 : Int32) + (1 : Int32)) + (1 : Int32)) + (1 : Int32)) + (1 : Int32)) + (1 : Int32)) + (1 : Int32)) + (1 : Int32)) + (1 : Int32)) + (1 : Int32)) &&& 31)) &&& (1 : Int32))) + ((x1 >>> ((((((((((((0 : Int32) + (1 : Int32)) + (1 : Int32)) + (1 : Int32)) + (1 : Int32)) + (1 : Int32)) + (1 : Int32)) + (1 : Int32)) + (1 : Int32)) + (1 : Int32)) + (1 : Int32)) &&& 31)) &&& (1 : Int32))) + ((x1 >>> (((((((((((((0 : Int32) + (1 : Int32)) + (1 : Int32)) + (1 : Int32)) + (1 : Int32)) + (1 : Int32)) + (1 : Int32)) + (1 : Int32)) + (1 : Int32)) + (1 : Int32)) + (1 : Int32)) + (1 : Int32)) &&& 31)) &&& (1 : Int32)))), (2, .int ((((((((((((0 : Int32) + (1 : Int32)) + (1 : Int32)) + (1 : Int32)) + (1 : Int32)) + (1 : Int32)) + (1 : Int32)) + (1 : Int32)) + (1 : Int32)) + (1 : Int32)) + (1 : Int32)) + (1 : Int32))), (0, .int x1)]) dX7_ones_17 hn1 rfl ?_
  refine at_iinc C (v := (((((((((((((0 : Int32) + (1 : Int32)) + (1 : Int32)) + (1 : Int32)) + (1 : Int32)) + (1 : Int32)) + (1 : Int32)) + (1 : Int32)) + (1 : Int32)) + (1 : Int32)) + (1 : Int32)) + (1 : Int32)) + (1 : Int32))) (lv' := [(2, .int (((((((((((((0 : Int32) + (1 : Int32)) + (1 : Int32)) + (1 : Int32)) + (1 : Int32)) + (1 : Int32)) + (1 : Int32)) + (1 : Int32)) + (1 : Int32)) + (1 : Int32)) + (1 : Int32)) + (1 : Int32)) + (1 : Int32))), (1, .int (((((((((((((0 : Int32) + ((x1 >>> ((0 : Int32) &&& 31)) &&& (1 : Int32))) + ((x1 >>> (((0 : Int32) + (1 : Int32)) &&& 31)) &&& (1 : Int32))) + ((x1 >>> ((((0 : Int32) + (1 : Int32)) + (1 : Int32)) &&& 31)) &&& (1 : Int32))) + ((x1 >>> (((((0 : Int32) + (1 : Int32)) + (1 : Int32)) + (1 : Int32)) &&& 31)) &&& (1 : Int32))) + ((x1 >>> ((((((0 : Int32) + (1 : Int32)) + (1 : Int32)) + (1 : Int32)) + (1 : Int32)) &&& 31)) &&& (1 : Int32))) + ((x1 >>> (((((((0 : Int32) + (1 : Int32)) + (1 : Int32)) + (1 : Int32)) + (1 : Int32)) + (1 : Int32)) &&& 31)) &&& (1 : Int32))) + ((x1 >>> ((((((((0 : Int32) + (1 : Int32)) + (1 : Int32)) + (1 : Int32)) + (1 : Int32)) + (1 : Int32)) + (1 : Int32)) &&& 31)) &&& (1 : Int32))) + ((x1 >>> (((((((((0 : Int32) + (1 : Int32)) + (1 : Int32)) + (1 : Int32)) + (1 : Int32)) + (1 : Int32)) + (1 : Int32)) + (1 : Int32)) &&& 31)) &&& (1 : Int32))) + ((x1 >>> ((((((((((0 : Int32) + (1 : Int32)) + (1 : Int32)) + (1 : Int32)) + (1 : Int32)) + (1 : Int32)) + (1 : Int32)) + (1 : Int32)) + (1 : Int32)) &&& 31)) &&& (1 : Int32))) + ((x1 >>> (((((((((((0 : Int32) + (1 : Int32)) + (1 : Int32)) + (1 : Int32)) + (1 : Int32)) + (1 : Int32)) + (1 : Int32)) + (1 : Int32)) + (1 : Int32)) + (1 : Int32)) &&& 31)) &&& (1 : Int32))) + ((x1 >>> ((((((((((((0 : Int32) + (1 : Int32)) + (1 : Int32)) + (1 : Int32)) + (1 : Int32)) + (1 : Int32)) + (1 : Int32)) + (1 : Int32)) + (1 : Int32)) + (1 : Int32)) + (1 : Int32)) &&& 31)) &&& (1 : Int32))) + ((x1 >>> (((((((((((((0 : Int32) + (1 : Int32)) + (1 : Int32)) + (1 : Int32)) + (1 : Int32)) + (1 : Int32)) + (1 : Int32)) + (1 : Int32)) + (1 : Int32)) + (1 : Int32)) + (1 : Int32)) + (1 : Int32)) &&& 31)) &&& (1 : Int32)))), (0, .int x1)]) 1 dX7_ones_18 rfl rfl hn2 rfl ?_
  refine at_goto C 4 dX7_ones_21 (by decide) ?_
  refine at_iload_n C 0 dX7_ones_4 rfl ?_
  refine at_bipush C (16 : Int32) dX7_ones_5 (by decide) ?_
  refine at_icmp_ge C 24 dX7_ones_7 (by decide) (fun c132 => absurd c132 (iv_xle (iv_c (c := 16) (x := (16 : Int32)) (by decide)) (iv_add (iv_add (iv_add (iv_add (iv_add (iv_add (iv_add (iv_add (iv_add (iv_add (iv_add (iv_add (iv_c (c := 0) (x := (0 : Int32)) (by decide)) (iv_c (c := 1) (x := (1 : Int32)) (by decide)) (by decide) (by decide)) (iv_c (c := 1) (x := (1 : Int32)) (by decide)) (by decide) (by decide)) (iv_c (c := 1) (x := (1 : Int32)) (by decide)) (by decide) (by decide)) (iv_c (c := 1) (x := (1 : Int32)) (by decide)) (by decide) (by decide)) (iv_c (c := 1) (x := (1 : Int32)) (by decide)) (by decide) (by decide)) (iv_c (c := 1) (x := (1 : Int32)) (by decide)) (by decide) (by decide)) (iv_c (c := 1) (x := (1 : Int32)) (by decide)) (by decide) (by decide)) (iv_c (c := 1) (x := (1 : Int32)) (by decide)) (by decide) (by decide)) (iv_c (c := 1) (x := (1 : Int32)) (by decide)) (by decide) (by decide)) (iv_c (c := 1) (x := (1 : Int32)) (by decide)) (by decide) (by decide)) (iv_c (c := 1) (x := (1 : Int32)) (by decide)) (by decide) (by decide)) (iv_c (c := 1) (x := (1 : Int32)) (by decide)) (by decide) (by decide)) (by decide))) (fun c132 => ?_)
  refine at_iload_n C 1 dX7_ones_10 rfl ?_
  refine at_iload_n C 2 dX7_ones_11 rfl ?_
  refine at_iload_n C 0 dX7_ones_12 rfl ?_
  refine at_ishr C dX7_ones_13 ?_
  refine at_iconst C (1 : Int32) dX7_ones_14 (by decide) ?_
  refine at_iand C dX7_ones_15 ?_
  refine at_iadd C dX7_ones_16 ?_
  refine at_istore_n C (lv' := [(1, .int ((((((((((((((0 : Int32) + ((x1 >>> ((0 : Int32) &&& 31)) &&& (1 : Int32))) + ((x1 >>> (((0 : Int32) + (1 : Int32)) &&& 31)) &&& (1 : Int32))) + ((x1 >>> ((((0 : Int32) + (1 : Int32)) + (1 : Int32)) &&& 31)) &&& (1 : Int32))) + ((x1 >>> (((((0 : Int32) + (1 : Int32)) + (1 : Int32)) + (1 : Int32)) &&& 31)) &&& (1 : Int32))) + ((x1 >>> ((((((0 : Int32) + (1 : Int32)) + (1 : Int32)) + (1 : Int32)) + (1 : Int32)) &&& 31)) &&& (1 : Int32))) + ((x1 >>> (((((((0 : Int32) + (1 : Int32)) + (1 : Int32)) + (1 : Int32)) + (1 : Int32)) + (1 : Int32)) &&& 31)) &&& (1 : Int32))) + ((x1 >>> ((((((((0 : Int32) + (1 : Int32)) + (1 : Int32)) + (1 : Int32)) + (1 : Int32)) + (1 : Int32)) + (1 : Int32)) &&& 31)) &&& (1 : Int32))) + ((x1 >>> (((((((((0 : Int32) + (1 : Int32)) + (1 : Int32)) + (1 : Int32)) + (1 : Int32)) + (1 : Int32)) + (1 : Int32)) + (1 : Int32)) &&& 31)) &&& (1 : Int32))) + ((x1 >>> ((((((((((0 : Int32) + (1 : Int32)) + (1 : Int32)) + (1 : Int32)) + (1 : Int32)) + (1 : Int32)) + (1 : Int32)) + (1 : Int32)) + (1 : Int32)) &&& 31)) &&& (1 : Int32))) + ((x1 >>> (((((((((((0 : Int32) + (1 : Int32)) + (1 : Int32)) + (1 : Int32)) + (1 : Int32)) + (1 : Int32)) + (1 : Int32)) + (1 : Int32)) + (1 : Int32)) + (1 : Int32)) &&& 31)) &&& (1 : Int32))) + ((x1 >>> ((((((((((((0 : Int32) + (1 : Int32)) + (1 : Int32)) + (1 : Int32)) + (1 : Int32)) + (1 : Int32)) + (1 : Int32)) + (1 : Int32)) + (1 : Int32)) + (1 : Int32)) + (1 : Int32)) &&& 31)) &&& (1 : Int32))) + ((x1 >>> (((((((((((((0 : Int32) + (1 : Int32)) + (1 : Int32)) + (1 : Int32)) + (1 : Int32)) + (1 : Int32)) + (1 : Int32)) + (1 : Int32)) + (1 : Int32)) + (1 : Int32)) + (1 : Int32)) + (1 : Int32)) &&& 31)) &&& (1 : Int32))) + ((x1 >>> ((((((((((((((0 : Int32) + (1 : Int32)) + (1 : Int32)) + (1 : Int32)) + (1 : Int32)) + (1 : Int32)) + (1 : Int32)) + (1 : Int32)) + (1 : Int32)) + (1 : Int32)) + (1 : Int32)) + (1 : Int32)) + (1 : Int32)) &&& 31)) &&& (1 : Int32)))), (2, .int (((((((((((((0 : Int32) + (1 : Int32)) + (1 : Int32)) + (1 : Int32)) + (1 : Int32)) + (1 : Int32)) + (1 : Int32)) + (1 : Int32)) + (1 : Int32)) + (1 : Int32)) + (1 : Int32)) + (1 : Int32)) + (1 : Int32))), (0, .int x1)]) dX7_ones_17 hn1 rfl ?_
  refine at_iinc C (v := ((((((((((((((0 : Int32) + (1 : Int32)) + (1 : Int32)) + (1 : Int32)) + (1 : Int32)) + (1 : Int32)) + (1 : Int32)) + (1 : Int32)) + (1 : Int32)) + (1 : Int32)) + (1 : Int32)) + (1 : Int32)) + (1 : Int32)) + (1 : Int32))) (lv' := [(2, .int ((((((((((((((0 : Int32) + (1 : Int32)) + (1 : Int32)) + (1 : Int32)) + (1 : Int32)) + (1 : Int32)) + (1 : Int32)) + (1 : Int32)) + (1 : Int32)) + (1 : Int32)) + (1 : Int32)) + (1 : Int32)) + (1 : Int32)) + (1 : Int32))), (1, .int ((((((((((((((0 : Int32) + ((x1 >>> ((0 : Int32) &&& 31)) &&& (1 : Int32))) + ((x1 >>> (((0 : Int32) + (1 : Int32)) &&& 31)) &&& (1 : Int32))) + ((x1 >>> ((((0 : Int32) + (1 : Int32)) + (1 : Int32)) &&& 31)) &&& (1 : Int32))) + ((x1 >>> (((((0 : Int32) + (1 : Int32)) + (1 : Int32)) + (1 : Int32)) &&& 31)) &&& (1 : Int32))) + ((x1 >>> ((((((0 : Int32) + (1 : Int32)) + (1 : Int32)) + (1 : Int32)) + (1 : Int32)) &&& 31)) &&& (1 : Int32))) + ((x1 >>> (((((((0 : Int32) + (1 : Int32)) + (1 : Int32)) + (1 : Int32)) + (1 : Int32)) + (1 : Int32)) &&& 31)) &&& (1 : Int32))) + ((x1 >>> ((((((((0 : Int32) + (1 : Int32)) + (1 : Int32)) + (1 : Int32)) + (1 : Int32)) + (1 : Int32)) + (1 : Int32)) &&& 31)) &&& (1 : Int32))) + ((x1 >>> (((((((((0 : Int32) + (1 : Int32)) + (1 : Int32)) + (1 : Int32)) + (1 : Int32)) + (1 : Int32)) + (1 : Int32)) + (1 : Int32)) &&& 31)) &&& (1 : Int32))) + ((x1 >>> ((((((((((0 : Int32) + (1 : Int32)) + (1 : Int32)) + (1 : Int32)) + (1 : Int32)) + (1 : Int32)) + (1 : Int32)) + (1 : Int32)) + (1 : Int32)) &&& 31)) &&& (1 : Int32))) + ((x1 >>> (((((((((((0 : Int32) + (1 : Int32)) + (1 : Int32)) + (1 : Int32)) + (1 : Int32)) + (1 : Int32)) + (1 : Int32)) + (1 : Int32)) + (1 : Int32)) + (1 : Int32)) &&& 31)) &&& (1 : Int32))) + ((x1 >>> ((((((((((((0 : Int32) + (1 : Int32)) + (1 : Int32)) + (1 : Int32)) + (1 : Int32)) + (1 : Int32)) + (1 : Int32)) + (1 : Int32)) + (1 : Int32)) + (1 : Int32)) + (1 : Int32)) &&& 31)) &&& (1 : Int32))) + ((x1 >>> (((((((((((((0 : Int32) + (1 : Int32)) + (1 : Int32)) + (1 : Int32)) + (1 : Int32)) + (1 : Int32)) + (1 : Int32)) + (1 : Int32)) + (1 : Int32)) + (1 : Int32)) + (1 : Int32)) + (1 : Int32)) &&& 31)) &&& (1 : Int32))) + ((x1 >>> ((((((((((((((0 : Int32) + (1 : Int32)) + (1 : Int32)) + (1 : Int32)) + (1 : Int32)) + (1 : Int32)) + (1 : Int32)) + (1 : Int32)) + (1 : Int32)) + (1 : Int32)) + (1 : Int32)) + (1 : Int32)) + (1 : Int32)) &&& 31)) &&& (1 : Int32)))), (0, .int x1)]) 1 dX7_ones_18 rfl rfl hn2 rfl ?_
  refine at_goto C 4 dX7_ones_21 (by decide) ?_
  refine at_iload_n C 0 dX7_ones_4 rfl ?_
  refine at_bipush C (16 : Int32) dX7_ones_5 (by decide) ?_
  refine at_icmp_ge C 24 dX7_ones_7 (by decide) (fun c133 => absurd c133 (iv_xle (iv_c (c := 16) (x := (16 : Int32)) (by decide)) (iv_add (iv_add (iv_add (iv_add (iv_add (iv_add (iv_add (iv_add (iv_add (iv_add (iv_add (iv_add (iv_add (iv_c (c := 0) (x := (0 : Int32)) (by decide)) (iv_c (c := 1) (x := (1 : Int32)) (by decide)) (by decide) (by decide)) (iv_c (c := 1) (x := (1 : Int32)) (by decide)) (by decide) (by decide)) (iv_c (c := 1) (x := (1 : Int32)) (by decide)) (by decide) (by decide)) (iv_c (c := 1) (x := (1 : Int32)) (by decide)) (by decide) (by decide)) (iv_c (c := 1) (x := (1 : Int32)) (by decide)) (by decide) (by decide)) (iv_c (c := 1) (x := (1 : Int32)) (by decide)) (by decide) (by decide)) (iv_c (c := 1) (x := (1 : Int32)) (by decide)) (by decide) (by decide)) (iv_c (c := 1) (x := (1 : Int32)) (by decide)) (by decide) (by decide)) (iv_c (c := 1) (x := (1 : Int32)) (by decide)) (by decide) (by decide)) (iv_c (c := 1) (x := (1 : Int32)) (by decide)) (by decide) (by decide)) (iv_c (c := 1) (x := (1 : Int32)) (by decide)) (by decide) (by decide)) (iv_c (c := 1) (x := (1 : Int32)) (by decide)) (by decide) (by decide)) (iv_c (c := 1) (x := (1 : Int32)) (by decide)) (by decide) (by decide)) (by decide))) (fun c133 => ?_)
  refine at_iload_n C 1 dX7_ones_10 rfl ?_
  refine at_iload_n C 2 dX7_ones_11 rfl ?_
  refine at_iload_n C 0 dX7_ones_12 rfl ?_
  refine at_ishr C dX7_ones_13 ?_
  refine at_iconst C (1 : Int32) dX7_ones_14 (by decide) ?_
  refine at_iand C dX7_ones_15 ?_
  refine at_iadd C dX7_ones_16 ?_
  refine at_istore_n C (lv' := [(1, .int (((((((((((((((0 : Int32) + ((x1 >>> ((0 : Int32) &&& 31)) &&& (1 : Int32))) + ((x1 >>> (((0 : Int32) + (1 : Int32)) &&& 31)) &&& (1 : Int32))) + ((x1 >>> ((((0 : Int32) + (1 : Int32)) + (1 : Int32)) &&& 31)) &&& (1 : Int32))) + ((x1 >>> (((((0 : Int32) + (1 : Int32)) + (1 : Int32)) + (1 : Int32)) &&& 31)) &&& (1 : Int32))) + ((x1 >>> ((((((0 : Int32) + (1 : Int32)) + (1 : Int32)) + (1 : Int32)) + (1 : Int32)) &&& 31)) &&& (1 : Int32))) + ((x1 >>> (((((((0 : Int32) + (1 : Int32)) + (1 : Int32)) + (1 : Int32)) + (1 : Int32)) + (1 : Int32)) &&& 31)) &&& (1 : Int32))) + ((x1 >>> ((((((((0 : Int32) + (1 : Int32)) + (1 : Int32)) + (1 : Int32)) + (1 : Int32)) + (1 : Int32)) + (1 : Int32)) &&& 31)) &&& (1 : Int32))) + ((x1 >>> (((((((((0 : Int32) + (1 : Int32)) + (1 : Int32)) + (1 : Int32)) + (1 : Int32)) + (1 : Int32)) + (1 : Int32)) + (1 : Int32)) &&& 31)) &&& (1 : Int32))) + ((x1 >>> ((((((((((0 : Int32) + (1 : Int32)) + (1 : Int32)) + (1 : Int32)) + (1 : Int32)) + (1 : Int32)) + (1 : Int32)) + (1 : Int32)) + (1 : Int32)) &&& 31)) &&& (1 : Int32))) + ((x1 >>> (((((((((((0 : Int32) + (1 : Int32)) + (1 : Int32)) + (1 : Int32)) + (1 : Int32)) + (1 : Int32)) + (1 : Int32)) + (1 : Int32)) + (1 : Int32)) + (1 : Int32)) &&& 31)) &&& (1 : Int32))) + ((x1 >>> ((((((((((((0 : Int32) + (1 : Int32)) + (1 : Int32)) + (1 : Int32)) + (1 : Int32)) + (1 : Int32)) + (1 : Int32)) + (1 : Int32)) + (1 : Int32)) + (1 : Int32)) + (1 : Int32)) &&& 31)) &&& (1 : Int32))) + ((x1 >>> (((((((((((((0 : Int32) + (1 : Int32)) + (1 : Int32)) + (1 : Int32)) + (1 : Int32)) + (1 : Int32)) + (1 : Int32)) + (1 : Int32)) + (1 : Int32)) + (1 : Int32)) + (1 : Int32)) + (1 : Int32)) &&& 31)) &&& (1 : Int32))) + ((x1 >>> ((((((((((((((0 : Int32) + (1 : Int32)) + (1 : Int32)) + (1 : Int32)) + (1 : Int32)) + (1 : Int32)) + (1 : Int32)) + (1 : Int32)) + (1 : Int32)) + (1 : Int32)) + (1 : Int32)) + (1 : Int32)) + (1 : Int32)) &&& 31)) &&& (1 : Int32))) + ((x1 >>> (((((((((((((((0 : Int32) + (1 : Int32)) + (1 : Int32)) + (1 : Int32)) + (1 : Int32)) + (1 : Int32)) + (1 : Int32)) + (1 : Int32)) + (1 : Int32)) + (1 : Int32)) + (1 : Int32)) + (1 : Int32)) + (1 : Int32)) + (1 : Int32)) &&& 31)) &&& (1 : Int32)))), (2, .int ((((((((((((((0 : Int32) + (1 : Int32)) + (1 : Int32)) + (1 : Int32)) + (1 : Int32)) + (1 : Int32)) + (1 : Int32)) + (1 : Int32)) + (1 : Int32)) + (1 : Int32)) + (1 : Int32)) + (1 : Int32)) + (1 : Int32)) + (1 : Int32))), (0, .int x1)]) dX7_ones_17 hn1 rfl ?_
  refine at_iinc C (v := (((((((((((((((0 : Int32) + (1 : Int32)) + (1 : Int32)) + (1 : Int32)) + (1 : Int32)) + (1 : Int32)) + (1 : Int32)) + (1 : Int32)) + (1 : Int32)) + (1 : Int32)) + (1 : Int32)) + (1 : Int32)) + (1 : Int32)) + (1 : Int32)) + (1 : Int32))) (lv' := [(2, .int (((((((((((((((0 : Int32) + (1 : Int32)) + (1 : Int32)) + (1 : Int32)) + (1 : Int32)) + (1 : Int32)) + (1 : Int32)) + (1 : Int32)) + (1 : Int32)) + (1 : Int32)) + (1 : Int32)) + (1 : Int32)) + (1 : Int32)) + (1 : Int32)) + (1 : Int32))), (1, .int (((((((((((((((0 : Int32) + ((x1 >>> ((0 : Int32) &&& 31)) &&& (1 : Int32))) + ((x1 >>> (((0 : Int32) + (1 : Int32)) &&& 31)) &&& (1 : Int32))) + ((x1 >>> ((((0 : Int32) + (1 : Int32)) + (1 : Int32)) &&& 31)) &&& (1 : Int32))) + ((x1 >>> (((((0 : Int32) + (1 : Int32)) + (1 : Int32)) + (1 : Int32)) &&& 31)) &&& (1 : Int32))) + ((x1 >>> ((((((0 : Int32) + (1 : Int32)) + (1 : Int32)) + (1 : Int32)) + (1 : Int32)) &&& 31)) &&& (1 : Int32))) + ((x1 >>> (((((((0 : Int32) + (1 : Int32)) + (1 : Int32)) + (1 : Int32)) + (1 : Int32)) + (1 : Int32)) &&& 31)) &&& (1 : Int32))) + ((x1 >>> ((((((((0 : Int32) + (1 : Int32)) + (1 : Int32)) + (1 : Int32)) + (1 : Int32)) + (1 : Int32)) + (1 : Int32)) &&& 31)) &&& (1 : Int32))) + ((x1 >>> (((((((((0 : Int32) + (1 : Int32)) + (1 : Int32)) + (1 : Int32)) + (1 : Int32)) + (1 : Int32)) + (1 : Int32)) + (1 : Int32)) &&& 31)) &&& (1 : Int32))) + ((x1 >>> ((((((((((0 : Int32) + (1 : Int32)) + (1 : Int32)) + (1 : Int32)) + (1 : Int32)) + (1 : Int32)) + (1 : Int32)) + (1 : Int32)) + (1 : Int32)) &&& 31)) &&& (1 : Int32))) + ((x1 >>> (((((((((((0 : Int32) + (1 : Int32)) + (1 : Int32)) + (1 : Int32)) + (1 : Int32)) + (1 : Int32)) + (1 : Int32)) + (1 : Int32)) + (1 : Int32)) + (1 : Int32)) &&& 31)) &&& (1 : Int32))) + ((x1 >>> ((((((((((((0 : Int32) + (1 : Int32)) + (1 : Int32)) + (1 : Int32)) + (1 : Int32)) + (1 : Int32)) + (1 : Int32)) + (1 : Int32)) + (1 : Int32)) + (1 : Int32)) + (1 : Int32)) &&& 31)) &&& (1 : Int32))) + ((x1 >>> (((((((((((((0 : Int32) + (1 : Int32)) + (1 : Int32)) + (1 : Int32)) + (1 : Int32)) + (1 : Int32)) + (1 : Int32)) + (1 : Int32)) + (1 : Int32)) + (1 : Int32)) + (1 : Int32)) + (1 : Int32)) &&& 31)) &&& (1 : Int32))) + ((x1 >>> ((((((((((((((0 : Int32) + (1 : Int32)) + (1 : Int32)) + (1 : Int32)) + (1 : Int32)) + (1 : Int32)) + (1 : Int32)) + (1 : Int32)) + (1 : Int32)) + (1 : Int32)) + (1 : Int32)) + (1 : Int32)) + (1 : Int32)) &&& 31)) &&& (1 : Int32))) + ((x1 >>> (((((((((((((((0 : Int32) + (1 : Int32)) + (1 : Int32)) + (1 : Int32)) + (1 : Int32)) + (1 : Int32)) + (1 : Int32)) + (1 : Int32)) + (1 : Int32)) + (1 : Int32)) + (1 : Int32)) + (1 : Int32)) + (1 : Int32)) + (1 : Int32)) &&& 31)) &&& (1 : Int32)))), (0, .int x1)]) 1 dX7_ones_18 rfl rfl hn2 rfl ?_
  refine at_goto C 4 dX7_ones_21 (by decide) ?_
  refine at_iload_n C 0 dX7_ones_4 rfl ?_
  refine at_bipush C (16 : Int32) dX7_ones_5 (by decide) ?_
  refine at_icmp_ge C 24 dX7_ones_7 (by decide) (fun c134 => absurd c134 (iv_xle (iv_c (c := 16) (x := (16 : Int32)) (by decide)) (iv_add (iv_add (iv_add (iv_add (iv_add (iv_add (iv_add (iv_add (iv_add (iv_add (iv_add (iv_add (iv_add (iv_add (iv_c (c := 0) (x := (0 : Int32)) (by decide)) (iv_c (c := 1) (x := (1 : Int32)) (by decide)) (by decide) (by decide)) (iv_c (c := 1) (x := (1 : Int32)) (by decide)) (by decide) (by decide)) (iv_c (c := 1) (x := (1 : Int32)) (by decide)) (by decide) (by decide)) (iv_c (c := 1) (x := (1 : Int32)) (by decide)) (by decide) (by decide)) (iv_c (c := 1) (x := (1 : Int32)) (by decide)) (by decide) (by decide)) (iv_c (c := 1) (x := (1 : Int32)) (by decide)) (by decide) (by decide)) (iv_c (c := 1) (x := (1 : Int32)) (by decide)) (by decide) (by decide)) (iv_c (c := 1) (x := (1 : Int32)) (by decide)) (by decide) (by decide)) (iv_c (c := 1) (x := (1 : Int32)) (by decide)) (by decide) (by decide)) (iv_c (c := 1) (x := (1 : Int32)) (by decide)) (by decide) (by decide)) (iv_c (c := 1) (x := (1 : Int32)) (by decide)) (by decide) (by decide)) (iv_c (c := 1) (x := (1 : Int32)) (by decide)) (by decide) (by decide)) (iv_c (c := 1) (x := (1 : Int32)) (by decide)) (by decide) (by decide)) (iv_c (c := 1) (x := (1 : Int32)) (by decide)) (by decide) (by decide)) (by decide))) (fun c134 => ?_)
  refine at_iload_n C 1 dX7_ones_10 rfl ?_
  refine at_iload_n C 2 dX7_ones_11 rfl ?_
  refine at_iload_n C 0 dX7_ones_12 rfl ?_
  refine at_ishr C dX7_ones_13 ?_
  refine at_iconst C (1 : Int32) dX7_ones_14 (by decide) ?_
  refine at_iand C dX7_ones_15 ?_
  refine at_iadd C dX7_ones_16 ?_
  refine at_istore_n C (lv' := [(1, .int ((((((((((((((((0 : Int32) + ((x1 >>> ((0 : Int32) &&& 31)) &&& (1 : Int32))) + ((x1 >>> (((0 : Int32) + (1 : Int32)) &&& 31)) &&& (1 : Int32))) + ((x1 >>> ((((0 : Int32) + (1 : Int32)) + (1 : Int32)) &&& 31)) &&& (1 : Int32))) + ((x1 >>> (((((0 : Int32) + (1 : Int32)) + (1 : Int32)) + (1 : Int32)) &&& 31)) &&& (1 : Int32))) + ((x1 >>> ((((((0 : Int32) + (1 : Int32)) + (1 : Int32)) + (1 : Int32)) + (1 : Int32)) &&& 31)) &&& (1 : Int32))) + ((x1 >>> (((((((0 : Int32) + (1 : Int32)) + (1 : Int32)) + (1 : Int32)) + (1 : Int32)) + (1 : Int32)) &&& 31)) &&& (1 : Int32))) + ((x1 >>> ((((((((0 : Int32) + (1 : Int32)) + (1 : Int32)) + (1 : Int32)) + (1 : Int32)) + (1 : Int32)) + (1 : Int32)) &&& 31)) &&& (1 : Int32))) + ((x1 >>> (((((((((0 : Int32) + (1 : Int32)) + (1 : Int32)) + (1 : Int32)) + (1 : Int32)) + (1 : Int32)) + (1 : Int32)) + (1 : Int32)) &&& 31)) &&& (1 : Int32))) + ((x1 >>> ((((((((((0 : Int32) + (1 : Int32)) + (1 : Int32)) + (1 : Int32)) + (1 : Int32)) + (1 : Int32)) + (1 : Int32)) + (1 : Int32)) + (1 : Int32)) &&& 31)) &&& (1 : Int32))) + ((x1 >>> (((((((((((0 : Int32) + (1 : Int32)) + (1 : Int32)) + (1 : Int32)) + (1 : Int32)) + (1 : Int32)) + (1 : Int32)) + (1 : Int32)) + (1 : Int32)) + (1 : Int32)) &&& 31)) &&& (1 : Int32))) + ((x1 >>> ((((((((((((0 : Int32) + (1 : Int32)) + (1 : Int32)) + (1 : Int32)) + (1 : Int32)) + (1 : Int32)) + (1 : Int32)) + (1 : Int32)) + (1 : Int32)) + (1 : Int32)) + (1 : Int32)) &&& 31)) &&& (1 : Int32))) + ((x1 >>> (((((((((((((0 : Int32) + (1 : Int32)) + (1 : Int32)) + (1 : Int32)) + (1 : Int32)) + (1 : Int32)) + (1 : Int32)) + (1 : Int32)) + (1 : Int32)) + (1 : Int32)) + (1 : Int32)) + (1 : Int32)) &&& 31)) &&& (1 : Int32))) + ((x1 >>> ((((((((((((((0 : Int32) + (1 : Int32)) + (1 : Int32)) + (1 : Int32)) + (1 : Int32)) + (1 : Int32)) + (1 : Int32)) + (1 : Int32)) + (1 : Int32)) + (1 : Int32)) + (1 : Int32)) + (1 : Int32)) + (1 : Int32)) &&& 31)) &&& (1 : Int32))) + ((x1 >>> (((((((((((((((0 : Int32) + (1 : Int32)) + (1 : Int32)) + (1 : Int32)) + (1 : Int32)) + (1 : Int32)) + (1 : Int32)) + (1 : Int32)) + (1 : Int32)) + (1 : Int32)) + (1 : Int32)) + (1 : Int32)) + (1 : Int32)) + (1 : Int32)) &&& 31)) &&& (1 : Int32))) + ((x1 >>> ((((((((((((((((0 : Int32) + (1 : Int32)) + (1 : Int32)) + (1 : Int32)) + (1 : Int32)) + (1 : Int32)) + (1 : Int32)) + (1 : Int32)) + (1 : Int32)) + (1 : Int32)) + (1 : Int32)) + (1 : Int32)) + (1 : Int32)) + (1 : Int32)) + (1 : Int32)) &&& 31)) &&& (1 : Int32)))), (2, .int (((((((((((((((0 : Int32) + (1 : Int32)) + (1 : Int32)) + (1 : Int32)) + (1 : Int32)) + (1 : Int32)) + (1 : Int32)) + (1 : Int32)) + (1 : Int32)) + (1 : Int32)) + (1 : Int32)) + (1 : Int32)) + (1 : Int32)) + (1 : Int32)) + (1 : Int32))), (0, .int x1)]) dX7_ones_17 hn1 rfl ?_
  refine at_iinc C (v := ((((((((((((((((0 : Int32) + (1 : Int32)) + (1 : Int32)) + (1 : Int32)) + (1 : Int32)) + (1 : Int32)) + (1 : Int32)) + (1 : Int32)) + (1 : Int32)) + (1 : Int32)) + (1 : Int32)) + (1 : Int32)) + (1 : Int32)) + (1 : Int32)) + (1 : Int32)) + (1 : Int32))) (lv' := [(2, .int ((((((((((((((((0 : Int32) + (1 : Int32)) + (1 : Int32)) + (1 : Int32)) + (1 : Int32)) + (1 : Int32)) + (1 : Int32)) + (1 : Int32)) + (1 : Int32)) + (1 : Int32)) + (1 : Int32)) + (1 : Int32)) + (1 : Int32)) + (1 : Int32)) + (1 : Int32)) + (1 : Int32))), (1, .int ((((((((((((((((0 : Int32) + ((x1 >>> ((0 : Int32) &&& 31)) &&& (1 : Int32))) + ((x1 >>> (((0 : Int32) + (1 : Int32)) &&& 31)) &&& (1 : Int32))) + ((x1 >>> ((((0 : Int32) + (1 : Int32)) + (1 : Int32)) &&& 31)) &&& (1 : Int32))) + ((x1 >>> (((((0 : Int32) + (1 : Int32)) + (1 : Int32)) + (1 : Int32)) &&& 31)) &&& (1 : Int32))) + ((x1 >>> ((((((0 : Int32) + (1 : Int32)) + (1 : Int32)) + (1 : Int32)) + (1 : Int32)) &&& 31)) &&& (1 : Int32))) + ((x1 >>> (((((((0 : Int32) + (1 : Int32)) + (1 : Int32)) + (1 : Int32)) + (1 : Int32)) + (1 : Int32)) &&& 31)) &&& (1 : Int32))) + ((x1 >>> ((((((((0 : Int32) + (1 : Int32)) + (1 : Int32)) + (1 : Int32)) + (1 : Int32)) + (1 : Int32)) + (1 : Int32)) &&& 31)) &&& (1 : Int32))) + ((x1 >>> (((((((((0 : Int32) + (1 : Int32)) + (1 : Int32)) + (1 : Int32)) + (1 : Int32)) + (1 : Int32)) + (1 : Int32)) + (1 : Int32)) &&& 31)) &&& (1 : Int32))) + ((x1 >>> ((((((((((0 : Int32) + (1 : Int32)) + (1 : Int32)) + (1 : Int32)) + (1 : Int32)) + (1 : Int32)) + (1 : Int32)) + (1 : Int32)) + (1 : Int32)) &&& 31)) &&& (1 : Int32))) + ((x1 >>> (((((((((((0 : Int32) + (1 : Int32)) + (1 : Int32)) + (1 : Int32)) + (1 : Int32)) + (1 : Int32)) + (1 : Int32)) + (1 : Int32)) + (1 : Int32)) + (1 : Int32)) &&& 31)) &&& (1 : Int32))) + ((x1 >>> ((((((((((((0 : Int32) + (1 : Int32)) + (1 : Int32)) + (1 : Int32)) + (1 : Int32)) + (1 : Int32)) + (1 : Int32)) + (1 : Int32)) + (1 : Int32)) + (1 : Int32)) + (1 : Int32)) &&& 31)) &&& (1 : Int32))) + ((x1 >>> (((((((((((((0 : Int32) + (1 : Int32)) + (1 : Int32)) + (1 : Int32)) + (1 : Int32)) + (1 : Int32)) + (1 : Int32)) + (1 : Int32)) + (1 : Int32)) + (1 : Int32)) + (1 : Int32)) + (1 : Int32)) &&& 31)) &&& (1 : Int32))) + ((x1 >>> ((((((((((((((0 : Int32) + (1 : Int32)) + (1 : Int32)) + (1 : Int32)) + (1 : Int32)) + (1 : Int32)) + (1 : Int32)) + (1 : Int32)) + (1 : Int32)) + (1 : Int32)) + (1 : Int32)) + (1 : Int32)) + (1 : Int32)) &&& 31)) &&& (1 : Int32))) + ((x1 >>> (((((((((((((((0 : Int32) + (1 : Int32)) + (1 : Int32)) + (1 : Int32)) + (1 : Int32)) + (1 : Int32)) + (1 : Int32)) + (1 : Int32)) + (1 : Int32)) + (1 : Int32)) + (1 : Int32)) + (1 : Int32)) + (1 : Int32)) + (1 : Int32)) &&& 31)) &&& (1 : Int32))) + ((x1 >>> ((((((((((((((((0 : Int32) + (1 : Int32)) + (1 : Int32)) + (1 : Int32)) + (1 : Int32)) + (1 : Int32)) + (1 : Int32)) + (1 : Int32)) + (1 : Int32)) + (1 : Int32)) + (1 : Int32)) + (1 : Int32)) + (1 : Int32)) + (1 : Int32)) + (1 : Int32)) &&& 31)) &&& (1 : Int32)))), (0, .int x1)]) 1 dX7_ones_18 rfl rfl hn2 rfl ?_
  refine at_goto C 4 dX7_ones_21 (by decide) ?_
  refine at_iload_n C 0 dX7_ones_4 rfl ?_
  refine at_bipush C (16 : Int32) dX7_ones_5 (by decide) ?_
  refine at_icmp_ge C 24 dX7_ones_7 (by decide) (fun c135 => absurd c135 (iv_xle (iv_c (c := 16) (x := (16 : Int32)) (by decide)) (iv_add (iv_add (iv_add (iv_add (iv_add (iv_add (iv_add (iv_add (iv_add (iv_add (iv_add (iv_add (iv_add (iv_add (iv_add (iv_c (c := 0) (x := (0 : Int32)) (by decide)) (iv_c (c := 1) (x := (1 : Int32)) (by decide)) (by decide) (by decide)) (iv_c (c := 1) (x := (1 : Int32)) (by decide)) (by decide) (by decide)) (iv_c (c := 1) (x := (1 : Int32)) (by decide)) (by decide) (by decide)) (iv_c (c := 1) (x := (1 : Int32)) (by decide)) (by decide) (by decide)) (iv_c (c := 1) (x := (1 : Int32)) (by decide)) (by decide) (by decide)) (iv_c (c := 1) (x := (1 : Int32)) (by decide)) (by decide) (by decide)) (iv_c (c := 1) (x := (1 : Int32)) (by decide)) (by decide) (by decide)) (iv_c (c := 1) (x := (1 : Int32)) (by decide)) (by decide) (by decide)) (iv_c (c := 1) (x := (1 : Int32)) (by decide)) (by decide) (by decide)) (iv_c (c := 1) (x := (1 : Int32)) (by decide)) (by decide) (by decide)) (iv_c (c := 1) (x := (1 : Int32)) (by decide)) (by decide) (by decide)) (iv_c (c := 1) (x := (1 : Int32)) (by decide)) (by decide) (by decide)) (iv_c (c := 1) (x := (1 : Int32)) (by decide)) (by decide) (by decide)) (iv_c (c := 1) (x := (1 : Int32)) (by decide)) (by decide) (by decide)) (iv_c (c := 1) (x := (1 : Int32)) (by decide)) (by decide) (by decide)) (by decide))) (fun c135 => ?_)
  refine at_iload_n C 1 dX7_ones_10 rfl ?_
  refine at_iload_n C 2 dX7_ones_11 rfl ?_
  refine at_iload_n C 0 dX7_ones_12 rfl ?_
  refine at_ishr C dX7_ones_13 ?_
  refine at_iconst C (1 : Int32) dX7_ones_14 (by decide) ?_
  refine at_iand C dX7_ones_15 ?_
  refine at_iadd C dX7_ones_16 ?_
  refine at_istore_n C (lv' := [(1, .int (((((((((((((((((0 : Int32) + ((x1 >>> ((0 : Int32) &&& 31)) &&& (1 : Int32))) + ((x1 >>> (((0 : Int32) + (1 : Int32)) &&& 31)) &&& (1 : Int32))) + ((x1 >>> ((((0 : Int32) + (1 : Int32)) + (1 : Int32)) &&& 31)) &&& (1 : Int32))) + ((x1 >>> (((((0 : Int32) + (1 : Int32)) + (1 : Int32)) + (1 : Int32)) &&& 31)) &&& (1 : Int32))) + ((x1 >>> ((((((0 : Int32) + (1 : Int32)) + (1 : Int32)) + (1 : Int32)) + (1 : Int32)) &&& 31)) &&& (1 : Int32))) + ((x1 >>> (((((((0 : Int32) + (1 : Int32)) + (1 : Int32)) + (1 : Int32)) + (1 : Int32)) + (1 : Int32)) &&& 31)) &&& (1 : Int32))) + ((x1 >>> ((((((((0 : Int32) + (1 : Int32)) + (1 : Int32)) + (1 : Int32)) + (1 : Int32)) + (1 : Int32)) + (1 : Int32)) &&& 31)) &&& (1 : Int32))) + ((x1 >>> (((((((((0 : Int32) + (1 : Int32)) + (1 : Int32)) + (1 : Int32)) + (1 : Int32)) + (1 : Int32)) + (1 : Int32)) + (1 : Int32)) &&& 31)) &&& (1 : Int32))) + ((x1 >>> ((((((((((0 : Int32) + (1 : Int32)) + (1 : Int32)) + (1 : Int32)) + (1 : Int32)) + (1 : Int32)) + (1 : Int32)) + (1 : Int32)) + (1 : Int32)) &&& 31)) &&& (1 : Int32))) + ((x1 >>> (((((((((((0 : Int32) + (1 : Int32)) + (1 : Int32)) + (1 : Int32)) + (1 : Int32)) + (1 : Int32)) + (1 : Int32)) + (1 : Int32)) + (1 : Int32)) + (1 : Int32)) &&& 31)) &&& (1 : Int32))) + ((x1 >>> ((((((((((((0 : Int32) + (1 : Int32)) + (1 : Int32)) + (1 : Int32)) + (1 : Int32)) + (1 : Int32)) + (1 : Int32)) + (1 : Int32)) + (1 : Int32)) + (1 : Int32)) + (1 : Int32)) &&& 31)) &&& (1 : Int32))) + ((x1 >>> (((((((((((((0 : Int32) + (1 : Int32)) + (1 : Int32)) + (1 : Int32)) + (1 : Int32)) + (1 : Int32)) + (1 : Int32)) + (1 : Int32)) + (1 : Int32)) + (1 : Int32)) + (1 : Int32)) + (1 : Int32)) &&& 31)) &&& (1 : Int32))) + ((x1 >>> ((((((((((((((0 : Int32) + (1 : Int32)) + (1 : Int32)) + (1 : Int32)) + (1 : Int32)) + (1 : Int32)) + (1 : Int32)) + (1 : Int32)) + (1 : Int32)) + (1 : Int32)) + (1 : Int32)) + (1 : Int32)) + (1 : Int32)) &&& 31)) &&& (1 : Int32))) + ((x1 >>> (((((((((((((((0 : Int32) + (1 : Int32)) + (1 : Int32)) + (1 : Int32)) + (1 : Int32)) + (1 : Int32)) + (1 : Int32)) + (1 : Int32)) + (1 : Int32)) + (1 : Int32)) + (1 : Int32)) + (1 : Int32)) + (1 : Int32)) + (1 : Int32)) &&& 31)) &&& (1 : Int32))) + ((x1 >>> ((((((((((((((((0 : Int32) + (1 : Int32)) + (1 : Int32)) + (1 : Int32)) + (1 : Int32)) + (1 : Int32)) + (1 : Int32)) + (1 : Int32)) + (1 : Int32)) + (1 : Int32)) + (1 : Int32)) + (1 : Int32)) + (1 : Int32)) + (1 : Int32)) + (1 : Int32)) &&& 31)) &&& (1 : Int32))) + ((x1 >>> (((((((((((((((((0 : Int32) + (1 : Int32)) + (1 : Int32)) + (1 : Int32)) + (1 : Int32)) + (1 : Int32)) + (1 : Int32)) + (1 : Int32)) + (1 : Int32)) + (1 : Int32)) + (1 : Int32)) + (1 : Int32)) + (1 : Int32)) + (1 : Int32)) + (1 : Int32)) + (1 : Int32)) &&& 31)) &&& (1 : Int32)))), (2, .int ((((((((((((((((0 : Int32) + (1 : Int32)) + (1 : Int32)) + (1 : Int32)) + (1 : Int32)) + (1 : Int32)) + (1 : Int32)) + (1 : Int32)) + (1 : Int32)) + (1 : Int32)) + (1 : Int32)) + (1 : Int32)) + (1 : Int32)) + (1 : Int32)) + (1 : Int32)) + (1 : Int32))), (0, .int x1)]) dX7_ones_17 hn1 rfl ?_
  refine at_iinc C (v := (((((((((((((((((0 : Int32) + (1 : Int32)) + (1 : Int32)) + (1 : Int32)) + (1 : Int32)) + (1 : Int32)) + (1 : Int32)) + (1 : Int32)) + (1 : Int32)) + (1 : Int32)) + (1 : Int32)) + (1 : Int32)) + (1 : Int32)) + (1 : Int32)) + (1 : Int32)) + (1 : Int32)) + (1 : Int32))) (lv' := [(2, .int (((((((((((((((((0 : Int32) + (1 : Int32)) + (1 : Int32)) + (1 : Int32)) + (1 : Int32)) + (1 : Int32)) + (1 : Int32)) + (1 : Int32)) + (1 : Int32)) + (1 : Int32)) + (1 : Int32)) + (1 : Int32)) + (1 : Int32)) + (1 : Int32)) + (1 : Int32)) + (1 : Int32)) + (1 : Int32))), (1, .int (((((((((((((((((0 : Int32) + ((x1 >>> ((0 : Int32) &&& 31)) &&& (1 : Int32))) + ((x1 >>> (((0 : Int32) + (1 : Int32)) &&& 31)) &&& (1 : Int32))) + ((x1 >>> ((((0 : Int32) + (1 : Int32)) + (1 : Int32)) &&& 31)) &&& (1 : Int32))) + ((x1 >>> (((((0 : Int32) + (1 : Int32)) + (1 : Int32)) + (1 : Int32)) &&& 31)) &&& (1 : Int32))) + ((x1 >>> ((((((0 : Int32) + (1 : Int32)) + (1 : Int32)) + (1 : Int32)) + (1 : Int32)) &&& 31)) &&& (1 : Int32))) + ((x1 >>> (((((((0 : Int32) + (1 : Int32)) + (1 : Int32)) + (1 : Int32)) + (1 : Int32)) + (1 : Int32)) &&& 31)) &&& (1 : Int32))) + ((x1 >>> ((((((((0 : Int32) + (1 : Int32)) + (1 : Int32)) + (1 : Int32)) + (1 : Int32)) + (1 : Int32)) + (1 : Int32)) &&& 31)) &&& (1 : Int32))) + ((x1 >>> (((((((((0 : Int32) + (1 : Int32)) + (1 : Int32)) + (1 : Int32)) + (1 : Int32)) + (1 : Int32)) + (1 : Int32)) + (1 : Int32)) &&& 31)) &&& (1 : Int32))) + ((x1 >>> ((((((((((0 : Int32) + (1 : Int32)) + (1 : Int32)) + (1 : Int32)) + (1 : Int32)) + (1 : Int32)) + (1 : Int32)) + (1 : Int32)) + (1 : Int32)) &&& 31)) &&& (1 : Int32))) + ((x1 >>> (((((((((((0 : Int32) + (1 : Int32)) + (1 : Int32)) + (1 : Int32)) + (1 : Int32)) + (1 : Int32)) + (1 : Int32)) + (1 : Int32)) + (1 : Int32)) + (1 : Int32)) &&& 31)) &&& (1 : Int32))) + ((x1 >>> ((((((((((((0 : Int32) + (1 : Int32)) + (1 : Int32)) + (1 : Int32)) + (1 : Int32)) + (1 : Int32)) + (1 : Int32)) + (1 : Int32)) + (1 : Int32)) + (1 : Int32)) + (1 : Int32)) &&& 31)) &&& (1 : Int32))) + ((x1 >>> (((((((((((((0 : Int32) + (1 : Int32)) + (1 : Int32)) + (1 : Int32)) + (1 : Int32)) + (1 : Int32)) + (1 : Int32)) + (1 : Int32)) + (1 : Int32)) + (1 : Int32)) + (1 : Int32)) + (1 : Int32)) &&& 31)) &&& (1 : Int32))) + ((x1 >>> ((((((((((((((0 : Int32) + (1 : Int32)) + (1 : Int32)) + (1 : Int32)) + (1 : Int32)) + (1 : Int32)) + (1 : Int32)) + (1 : Int32)) + (1 : Int32)) + (1 : Int32)) + (1 : Int32)) + (1 : Int32)) + (1 : Int32)) &&& 31)) &&& (1 : Int32))) + ((x1 >>> (((((((((((((((0 : Int32) + (1 : Int32)) + (1 : Int32)) + (1 : Int32)) + (1 : Int32)) + (1 : Int32)) + (1 : Int32)) + (1 : Int32)) + (1 : Int32)) + (1 : Int32)) + (1 : Int32)) + (1 : Int32)) + (1 : Int32)) + (1 : Int32)) &&& 31)) &&& (1 : Int32))) + ((x1 >>> ((((((((((((((((0 : Int32) + (1 : Int32)) + (1 : Int32)) + (1 : Int32)) + (1 : Int32)) + (1 : Int32)) + (1 : Int32)) + (1 : Int32)) + (1 : Int32)) + (1 : Int32)) + (1 : Int32)) + (1 : Int32)) + (1 : Int32)) + (1 : Int32)) + (1 : Int32)) &&& 31)) &&& (1 : Int32))) + ((x1 >>> (((((((((((((((((0 : Int32) + (1 : Int32)) + (1 : Int32)) + (1 : Int32)) + (1 : Int32)) + (1 : Int32)) + (1 : Int32)) + (1 : Int32)) + (1 : Int32)) + (1 : Int32)) + (1 : Int32)) + (1 : Int32)) + (1 : Int32)) + (1 : Int32)) + (1 : Int32)) + (1 : Int32)) &&& 31)) &&& (1 : Int32)))), (0, .int x1)]) 1 dX7_ones_18 rfl rfl hn2 rfl ?_
  refine at_goto C 4 dX7_ones_21 (by decide) ?_
  refine at_iload_n C 0 dX7_ones_4 rfl ?_
  refine at_bipush C (16 : Int32) dX7_ones_5 (by decide) ?_
  refine at_icmp_ge C 24 dX7_ones_7 (by decide) (fun c136 => ?_) (fun c136 => absurd (Int32.not_le.mp c136) (iv_xlt (iv_add (iv_add (iv_add (iv_add (iv_add (iv_add (iv_add (iv_add (iv_add (iv_add (iv_add (iv_add (iv_add (iv_add (iv_add (iv_add (iv_c (c := 0) (x := (0 : Int32)) (by decide)) (iv_c (c := 1) (x := (1 : Int32)) (by decide)) (by decide) (by decide)) (iv_c (c := 1) (x := (1 : Int32)) (by decide)) (by decide) (by decide)) (iv_c (c := 1) (x := (1 : Int32)) (by decide)) (by decide) (by decide)) (iv_c (c := 1) (x := (1 : Int32)) (by decide)) (by decide) (by decide)) (iv_c (c := 1) (x := (1 : Int32)) (by decide)) (by decide) (by decide)) (iv_c (c := 1) (x := (1 : Int32)) (by decide)) (by decide) (by decide)) (iv_c (c := 1) (x := (1 : Int32)) (by decide)) (by decide) (by decide)) (iv_c (c := 1) (x := (1 : Int32)) (by decide)) (by decide) (by decide)) (iv_c (c := 1) (x := (1 : Int32)) (by decide)) (by decide) (by decide)) (iv_c (c := 1) (x := (1 : Int32)) (by decide)) (by decide) (by decide)) (iv_c (c := 1) (x := (1 : Int32)) (by decide)) (by decide) (by decide)) (iv_c (c := 1) (x := (1 : Int32)) (by decide)) (by decide) (by decide)) (iv_c (c := 1) (x := (1 : Int32)) (by decide)) (by decide) (by decide)) (iv_c (c := 1) (x := (1 : Int32)) (by decide)) (by decide) (by decide)) (iv_c (c := 1) (x := (1 : Int32)) (by decide)) (by decide) (by decide)) (iv_c (c := 1) (x := (1 : Int32)) (by decide)) (by decide) (by decide)) (iv_c (c := 16) (x := (16 : Int32)) (by decide)) (by decide)))
  refine at_iload_n C 1 dX7_ones_24 rfl ?_
  exact hR _ _ _ _ dX7_ones_25 ⟨(iv_xne (show iv 0 0 (((((((((((((((((0 : Int32) + ((x1 >>> ((0 : Int32) &&& 31)) &&& (1 : Int32))) + ((x1 >>> (((0 : Int32) + (1 : Int32)) &&& 31)) &&& (1 : Int32))) + ((x1 >>> ((((0 : Int32) + (1 : Int32)) + (1 : Int32)) &&& 31)) &&& (1 : Int32))) + ((x1 >>> (((((0 : Int32) + (1 : Int32)) + (1 : Int32)) + (1 : Int32)) &&& 31)) &&& (1 : Int32))) + ((x1 >>> ((((((0 : Int32) + (1 : Int32)) + (1 : Int32)) + (1 : Int32)) + (1 : Int32)) &&& 31)) &&& (1 : Int32))) + ((x1 >>> (((((((0 : Int32) + (1 : Int32)) + (1 : Int32)) + (1 : Int32)) + (1 : Int32)) + (1 : Int32)) &&& 31)) &&& (1 : Int32))) + ((x1 >>> ((((((((0 : Int32) + (1 : Int32)) + (1 : Int32)) + (1 : Int32)) + (1 : Int32)) + (1 : Int32)) + (1 : Int32)) &&& 31)) &&& (1 : Int32))) + ((x1 >>> (((((((((0 : Int32) + (1 : Int32)) + (1 : Int32)) + (1 : Int32)) + (1 : Int32)) + (1 : Int32)) + (1 : Int32)) + (1 : Int32)) &&& 31)) &&& (1 : Int32))) + ((x1 >>> ((((((((((0 : Int32) + (1 : Int32)) + (1 : Int32)) + (1 : Int32)) + (1 : Int32)) + (1 : Int32)) + (1 : Int32)) + (1 : Int32)) + (1 : Int32)) &&& 31)) &&& (1 : Int32))) + ((x1 >>> (((((((((((0 : Int32) + (1 : Int32)) + (1 : Int32)) + (1 : Int32)) + (1 : Int32)) + (1 : Int32)) + (1 : Int32)) + (1 : Int32)) + (1 : Int32)) + (1 : Int32)) &&& 31)) &&& (1 : Int32))) + ((x1 >>> ((((((((((((0 : Int32) + (1 : Int32)) + (1 : Int32)) + (1 : Int32)) + (1 : Int32)) + (1 : Int32)) + (1 : Int32)) + (1 : Int32)) + (1 : Int32)) + (1 : Int32)) + (1 : Int32)) &&& 31)) &&& (1 : Int32))) + ((x1 >>> (((((((((((((0 : Int32) + (1 : Int32)) + (1 : Int32)) + (1 : Int32)) + (1 : Int32)) + (1 : Int32)) + (1 : Int32)) + (1 : Int32)) + (1 : Int32)) + (1 : Int32)) + (1 : Int32)) + (1 : Int32)) &&& 31)) &&& (1 : Int32))) + ((x1 >>> ((((((((((((((0 : Int32) + (1 : Int32)) + (1 : Int32)) + (1 : Int32)) + (1 : Int32)) + (1 : Int32)) + (1 : Int32)) + (1 : Int32)) + (1 : Int32)) + (1 : Int32)) + (1 : Int32)) + (1 : Int32)) + (1 : Int32)) &&& 31)) &&& (1 : Int32))) + ((x1 >>> (((((((((((((((0 : Int32) + (1 : Int32)) + (1 : Int32)) + (1 : Int32)) + (1 : Int32)) + (1 : Int32)) + (1 : Int32)) + (1 : Int32)) + (1 : Int32)) + (1 : Int32)) + (1 : Int32)) + (1 : Int32)) + (1 : Int32)) + (1 : Int32)) &&& 31)) &&& (1 : Int32))) + ((x1 >>> ((((((((((((((((0 : Int32) + (1 : Int32)) + (1 : Int32)) + (1 : Int32)) + (1 : Int32)) + (1 : Int32)) + (1 : Int32)) + (1 : Int32)) + (1 : Int32)) + (1 : Int32)) + (1 : Int32)) + (1 : Int32)) + (1 : Int32)) + (1 : Int32)) + (1 : Int32)) &&& 31)) &&& (1 : Int32))) + ((x1 >>> (((((((((((((((((0 : Int32) + (1 : Int32)) + (1 : Int32)) + (1 : Int32)) + (1 : Int32)) + (1 : Int32)) + (1 : Int32)) + (1 : Int32)) + (1 : Int32)) + (1 : Int32)) + (1 : Int32)) + (1 : Int32)) + (1 : Int32)) + (1 : Int32)) + (1 : Int32)) + (1 : Int32)) &&& 31)) &&& (1 : Int32))) from (iv_add (iv_add (iv_add (iv_add (iv_add (iv_add (iv_add (iv_add (iv_add (iv_add (iv_add (iv_add (iv_add (iv_add (iv_add (iv_add (iv_c (c := 0) (x := (0 : Int32)) (by decide)) (iv_andl (iv_shr g1)) (by decide) (by decide)) (iv_andl (iv_shr g1)) (by decide) (by decide)) (iv_andl (iv_shr g1)) (by decide) (by decide)) (iv_andl (iv_shr g1)) (by decide) (by decide)) (iv_andl (iv_shr g1)) (by decide) (by decide)) (iv_andl (iv_shr g1)) (by decide) (by decide)) (iv_andl (iv_shr g1)) (by decide) (by decide)) (iv_andl (iv_shr g1)) (by decide) (by decide)) (iv_andl (iv_shr g1)) (by decide) (by decide)) (iv_andl (iv_shr g1)) (by decide) (by decide)) (iv_andl (iv_shr g1)) (by decide) (by decide)) (iv_andl (iv_shr g1)) (by decide) (by decide)) (iv_andl (iv_shr g1)) (by decide) (by decide)) (iv_andl (iv_shr g1)) (by decide) (by decide)) (iv_andl (iv_shr g1)) (by decide) (by decide)) (iv_andl (iv_shr g1)) (by decide) (by decide))) (show iv 0 0 (0 : Int32) from (iv_c (c := 0) (x := (0 : Int32)) (by decide)))), rfl, hI⟩
set_option maxHeartbeats 4000000 in
set_option maxRecDepth 100000 in
theorem cz_X7_count (σ : SS) (x1 : Int32) (hI : Inv σ) (gf15 : iv 0 0 (ac_gi σ 15)) (gf25 : iv 0 0 (ac_gi σ 25)) (gf26 : iv 0 0 (ac_gi σ 26)) : ConI yX7_count cX7_count 2 (some .int) 2 (some 30) [.int x1] σ (fun r σ' => ((¬ ((0 ≤ (x1).toInt ∧ (x1).toInt ≤ 3))) ∧ r = (-2 : Int32) ∧ σ = σ' ∧ Inv σ') ∨ (((0 ≤ (x1).toInt ∧ (x1).toInt ≤ 3)) ∧ r = (0 : Int32) ∧ σ = σ' ∧ Inv σ')) := by
  refine conI_of (by decide) (fun q => Nat.le_of_ble_eq_true rfl) (fun E C en hR => ?_)
  refine at_iload_n C 1 dX7_count_0 rfl ?_
  by_cases c500 : x1 = (0 : Int32)
  · refine at_tabIn C 32 dX7_count_1 (by rw [c500]; decide) (by rw [c500]; decide) (by rw [c500]; rfl) (by decide) ?_
    have f51 : iv 0 0 x1 := (iv_eql (iv_c (c := 0) (x := (0 : Int32)) (by decide)) c500)
    refine at_aload_n C 0 dX7_count_32 rfl ?_
    refine gf_X7_87 C dX7_count_33 ?_
    exact hR _ _ _ _ dX7_count_36 (Or.inr ⟨(by have t1 := congrArg Int32.toInt c500; have k0 : (0 : Int32).toInt = 0 := (by decide); omega), (iv_xne (show iv 0 0 (ac_gi σ 15) from gf15) (show iv 0 0 (0 : Int32) from (iv_c (c := 0) (x := (0 : Int32)) (by decide)))), rfl, hI⟩)
  by_cases c501 : x1 = (1 : Int32)
  · refine at_tabIn C 37 dX7_count_1 (by rw [c501]; decide) (by rw [c501]; decide) (by rw [c501]; rfl) (by decide) ?_
    have f52 : iv 1 1 x1 := (iv_eql (iv_c (c := 1) (x := (1 : Int32)) (by decide)) c501)
    refine at_aload_n C 0 dX7_count_37 rfl ?_
    refine at_Vi C (As := []) (st := []) (b := 30) (ci := 7) (cz_X7_olds σ hI (show iv 0 0 (ac_gi σ 15) from gf15)) mb_X7_olds ml_X7_153 rfl rfl rfl (by decide) rfl (Nat.le_of_ble_eq_true rfl) dX7_count_38 ?_
    rintro _ _ ⟨rfl, rfl, hJ53⟩
    · show AT E 41 [(0, .ref (e_q E 30)), (1, .int x1)] [.int (0 : Int32)] σ
      refine at_Si C (As := [.int (0 : Int32)]) (st := []) (cz_X7_ones σ (0 : Int32) hI (show iv 0 0 (0 : Int32) from (iv_c (c := 0) (x := (0 : Int32)) (by decide)))) mb_X7_ones ml_X7_144 rfl (by decide) rfl (Nat.le_of_ble_eq_true rfl) dX7_count_41 ?_
      rintro _ _ ⟨rfl, rfl, hJ54⟩
      · show AT E 44 [(0, .ref (e_q E 30)), (1, .int x1)] [.int (0 : Int32)] σ
        exact hR _ _ _ _ dX7_count_44 (Or.inr ⟨(by have t1 := iv_ne c500; have t2 := congrArg Int32.toInt c501; have k0 : (0 : Int32).toInt = 0 := (by decide); have k1 : (1 : Int32).toInt = 1 := (by decide); omega), rfl, rfl, hI⟩)
  by_cases c502 : x1 = (2 : Int32)
  · refine at_tabIn C 45 dX7_count_1 (by rw [c502]; decide) (by rw [c502]; decide) (by rw [c502]; rfl) (by decide) ?_
    have f55 : iv 2 2 x1 := (iv_eql (iv_c (c := 2) (x := (2 : Int32)) (by decide)) c502)
    refine at_aload_n C 0 dX7_count_45 rfl ?_
    refine gf_X7_183 C dX7_count_46 ?_
    exact hR _ _ _ _ dX7_count_49 (Or.inr ⟨(by have t1 := iv_ne c500; have t2 := iv_ne c501; have t3 := congrArg Int32.toInt c502; have k0 : (0 : Int32).toInt = 0 := (by decide); have k1 : (1 : Int32).toInt = 1 := (by decide); have k2 : (2 : Int32).toInt = 2 := (by decide); omega), (iv_xne (show iv 0 0 (ac_gi σ 25) from gf25) (show iv 0 0 (0 : Int32) from (iv_c (c := 0) (x := (0 : Int32)) (by decide)))), rfl, hI⟩)
  by_cases c503 : x1 = (3 : Int32)
  · refine at_tabIn C 50 dX7_count_1 (by rw [c503]; decide) (by rw [c503]; decide) (by rw [c503]; rfl) (by decide) ?_
    have f56 : iv 3 3 x1 := (iv_eql (iv_c (c := 3) (x := (3 : Int32)) (by decide)) c503)
    refine at_aload_n C 0 dX7_count_50 rfl ?_
    refine gf_X7_191 C dX7_count_51 ?_
    exact hR _ _ _ _ dX7_count_54 (Or.inr ⟨(by have t1 := iv_ne c500; have t2 := iv_ne c501; have t3 := iv_ne c502; have t4 := congrArg Int32.toInt c503; have k0 : (0 : Int32).toInt = 0 := (by decide); have k1 : (1 : Int32).toInt = 1 := (by decide); have k2 : (2 : Int32).toInt = 2 := (by decide); have k3 : (3 : Int32).toInt = 3 := (by decide); omega), (iv_xne (show iv 0 0 (ac_gi σ 26) from gf26) (show iv 0 0 (0 : Int32) from (iv_c (c := 0) (x := (0 : Int32)) (by decide)))), rfl, hI⟩)
  refine at_tabOut C 55 dX7_count_1 (tab_out (lo := 0) (hi := 3) (fun z1 z2 => by have := iv_ne c500; have := iv_ne c501; have := iv_ne c502; have := iv_ne c503; simp at *; omega)) (by decide) ?_
  refine at_bipush C (-2 : Int32) dX7_count_55 (by decide) ?_
  exact hR _ _ _ _ dX7_count_57 (Or.inl ⟨(by have t1 := iv_ne c500; have t2 := iv_ne c501; have t3 := iv_ne c502; have t4 := iv_ne c503; have k0 : (0 : Int32).toInt = 0 := (by decide); have k1 : (1 : Int32).toInt = 1 := (by decide); have k2 : (2 : Int32).toInt = 2 := (by decide); have k3 : (3 : Int32).toInt = 3 := (by decide); omega), rfl, rfl, hI⟩)
set_option maxHeartbeats 4000000 in
set_option maxRecDepth 100000 in
theorem cz_X7_add (σ : SS) (x1 : Int32) (hI : Inv σ) : ConV yX7_add cX7_add 2 none 0 (some 30) [.int x1] σ (fun σ' => ((ac_sl σ (((31 : Int64) * (ac_gl σ)) + (x1).toInt64)) = σ' ∧ Inv σ')) := by
  refine conV_of (by decide) (fun q => Nat.le_of_ble_eq_true rfl) (fun E C en hR => ?_)
  refine at_aload_n C 0 dX7_add_0 rfl ?_
  refine at_ldc2 C (31 : Int64) dX7_add_1 kc_X7_233 ?_
  refine at_aload_n C 0 dX7_add_4 rfl ?_
  refine gf_X7_235 C dX7_add_5 ?_
  refine at_lmul C dX7_add_8 ?_
  refine at_iload_n C 1 dX7_add_9 rfl ?_
  refine at_i2l C dX7_add_10 ?_
  refine at_ladd C dX7_add_11 ?_
  refine pf_X7_235 C dX7_add_12 ?_
  have hJ8 := Inv.sl (v := (((31 : Int64) * (ac_gl σ)) + (x1).toInt64)) hI
  exact hR _ _ _ dX7_add_15 ⟨rfl, hJ8⟩
set_option maxHeartbeats 4000000 in
set_option maxRecDepth 100000 in
theorem cz_X7_digest (σ : SS) (hI : Inv σ) (gf15 : iv 0 0 (ac_gi σ 15)) (gf25 : iv 0 0 (ac_gi σ 25)) (gf26 : iv 0 0 (ac_gi σ 26)) : ConL yX7_digest cX7_digest 3 (some .long) 5 (some 30) [] σ (fun r σ' => (r = (((31 : Int64) * (((31 : Int64) * (((31 : Int64) * (((31 : Int64) * (((31 : Int64) * (((31 : Int64) * (((31 : Int64) * (((31 : Int64) * (((31 : Int64) * (((31 : Int64) * (((31 : Int64) * (((31 : Int64) * (((31 : Int64) * (((31 : Int64) * (((31 : Int64) * (((31 : Int64) * (((31 : Int64) * (((31 : Int64) * (((31 : Int64) * (((31 : Int64) * (((31 : Int64) * (((31 : Int64) * (((31 : Int64) * (((31 : Int64) * (((31 : Int64) * (((31 : Int64) * (((31 : Int64) * (((31 : Int64) * (401 : Int64)) + ((0 : Int32)).toInt64)) + ((0 : Int32)).toInt64)) + ((0 : Int32)).toInt64)) + ((0 : Int32)).toInt64)) + ((ac_gi σ 16)).toInt64)) + ((ac_gi σ 17)).toInt64)) + ((ac_gi σ 20)).toInt64)) + ((ac_gi σ 21)).toInt64)) + ((ac_ga σ 51 ((0 : Int32)).toNatClampNeg)).toInt64)) + ((ac_ga σ 51 (((0 : Int32) + (1 : Int32))).toNatClampNeg)).toInt64)) + ((ac_ga σ 51 ((((0 : Int32) + (1 : Int32)) + (1 : Int32))).toNatClampNeg)).toInt64)) + ((ac_ga σ 51 (((((0 : Int32) + (1 : Int32)) + (1 : Int32)) + (1 : Int32))).toNatClampNeg)).toInt64)) + ((ac_ga σ 51 ((((((0 : Int32) + (1 : Int32)) + (1 : Int32)) + (1 : Int32)) + (1 : Int32))).toNatClampNeg)).toInt64)) + ((ac_ga σ 51 (((((((0 : Int32) + (1 : Int32)) + (1 : Int32)) + (1 : Int32)) + (1 : Int32)) + (1 : Int32))).toNatClampNeg)).toInt64)) + ((ac_ga σ 51 ((((((((0 : Int32) + (1 : Int32)) + (1 : Int32)) + (1 : Int32)) + (1 : Int32)) + (1 : Int32)) + (1 : Int32))).toNatClampNeg)).toInt64)) + ((ac_ga σ 51 (((((((((0 : Int32) + (1 : Int32)) + (1 : Int32)) + (1 : Int32)) + (1 : Int32)) + (1 : Int32)) + (1 : Int32)) + (1 : Int32))).toNatClampNeg)).toInt64)) + ((ac_ga σ 51 ((((((((((0 : Int32) + (1 : Int32)) + (1 : Int32)) + (1 : Int32)) + (1 : Int32)) + (1 : Int32)) + (1 : Int32)) + (1 : Int32)) + (1 : Int32))).toNatClampNeg)).toInt64)) + ((ac_ga σ 51 (((((((((((0 : Int32) + (1 : Int32)) + (1 : Int32)) + (1 : Int32)) + (1 : Int32)) + (1 : Int32)) + (1 : Int32)) + (1 : Int32)) + (1 : Int32)) + (1 : Int32))).toNatClampNeg)).toInt64)) + ((ac_ga σ 51 ((((((((((((0 : Int32) + (1 : Int32)) + (1 : Int32)) + (1 : Int32)) + (1 : Int32)) + (1 : Int32)) + (1 : Int32)) + (1 : Int32)) + (1 : Int32)) + (1 : Int32)) + (1 : Int32))).toNatClampNeg)).toInt64)) + ((ac_ga σ 51 (((((((((((((0 : Int32) + (1 : Int32)) + (1 : Int32)) + (1 : Int32)) + (1 : Int32)) + (1 : Int32)) + (1 : Int32)) + (1 : Int32)) + (1 : Int32)) + (1 : Int32)) + (1 : Int32)) + (1 : Int32))).toNatClampNeg)).toInt64)) + ((ac_ga σ 51 ((((((((((((((0 : Int32) + (1 : Int32)) + (1 : Int32)) + (1 : Int32)) + (1 : Int32)) + (1 : Int32)) + (1 : Int32)) + (1 : Int32)) + (1 : Int32)) + (1 : Int32)) + (1 : Int32)) + (1 : Int32)) + (1 : Int32))).toNatClampNeg)).toInt64)) + ((ac_ga σ 51 (((((((((((((((0 : Int32) + (1 : Int32)) + (1 : Int32)) + (1 : Int32)) + (1 : Int32)) + (1 : Int32)) + (1 : Int32)) + (1 : Int32)) + (1 : Int32)) + (1 : Int32)) + (1 : Int32)) + (1 : Int32)) + (1 : Int32)) + (1 : Int32))).toNatClampNeg)).toInt64)) + ((ac_ga σ 51 ((((((((((((((((0 : Int32) + (1 : Int32)) + (1 : Int32)) + (1 : Int32)) + (1 : Int32)) + (1 : Int32)) + (1 : Int32)) + (1 : Int32)) + (1 : Int32)) + (1 : Int32)) + (1 : Int32)) + (1 : Int32)) + (1 : Int32)) + (1 : Int32)) + (1 : Int32))).toNatClampNeg)).toInt64)) + ((ac_ga σ 51 (((((((((((((((((0 : Int32) + (1 : Int32)) + (1 : Int32)) + (1 : Int32)) + (1 : Int32)) + (1 : Int32)) + (1 : Int32)) + (1 : Int32)) + (1 : Int32)) + (1 : Int32)) + (1 : Int32)) + (1 : Int32)) + (1 : Int32)) + (1 : Int32)) + (1 : Int32)) + (1 : Int32))).toNatClampNeg)).toInt64)) + ((0 : Int32)).toInt64)) + ((0 : Int32)).toInt64)) + ((0 : Int32)).toInt64)) + ((0 : Int32)).toInt64) ∧ (ac_sl (ac_si (ac_si (ac_si (ac_si (ac_si (ac_si (ac_si (ac_si (ac_si (ac_si (ac_si (ac_si σ 22 (0 : Int32)) 23 (0 : Int32)) 24 (0 : Int32)) 22 (0 : Int32)) 23 (0 : Int32)) 24 (0 : Int32)) 22 (0 : Int32)) 23 (0 : Int32)) 24 (0 : Int32)) 22 (0 : Int32)) 23 (0 : Int32)) 24 (0 : Int32)) (((31 : Int64) * (((31 : Int64) * (((31 : Int64) * (((31 : Int64) * (((31 : Int64) * (((31 : Int64) * (((31 : Int64) * (((31 : Int64) * (((31 : Int64) * (((31 : Int64) * (((31 : Int64) * (((31 : Int64) * (((31 : Int64) * (((31 : Int64) * (((31 : Int64) * (((31 : Int64) * (((31 : Int64) * (((31 : Int64) * (((31 : Int64) * (((31 : Int64) * (((31 : Int64) * (((31 : Int64) * (((31 : Int64) * (((31 : Int64) * (((31 : Int64) * (((31 : Int64) * (((31 : Int64) * (((31 : Int64) * (401 : Int64)) + ((0 : Int32)).toInt64)) + ((0 : Int32)).toInt64)) + ((0 : Int32)).toInt64)) + ((0 : Int32)).toInt64)) + ((ac_gi σ 16)).toInt64)) + ((ac_gi σ 17)).toInt64)) + ((ac_gi σ 20)).toInt64)) + ((ac_gi σ 21)).toInt64)) + ((ac_ga σ 51 ((0 : Int32)).toNatClampNeg)).toInt64)) + ((ac_ga σ 51 (((0 : Int32) + (1 : Int32))).toNatClampNeg)).toInt64)) + ((ac_ga σ 51 ((((0 : Int32) + (1 : Int32)) + (1 : Int32))).toNatClampNeg)).toInt64)) + ((ac_ga σ 51 (((((0 : Int32) + (1 : Int32)) + (1 : Int32)) + (1 : Int32))).toNatClampNeg)).toInt64)) + ((ac_ga σ 51 ((((((0 : Int32) + (1 : Int32)) + (1 : Int32)) + (1 : Int32)) + (1 : Int32))).toNatClampNeg)).toInt64)) + ((ac_ga σ 51 (((((((0 : Int32) + (1 : Int32)) + (1 : Int32)) + (1 : Int32)) + (1 : Int32)) + (1 : Int32))).toNatClampNeg)).toInt64)) + ((ac_ga σ 51 ((((((((0 : Int32) + (1 : Int32)) + (1 : Int32)) + (1 : Int32)) + (1 : Int32)) + (1 : Int32)) + (1 : Int32))).toNatClampNeg)).toInt64)) + ((ac_ga σ 51 (((((((((0 : Int32) + (1 : Int32)) + (1 : Int32)) + (1 : Int32)) + (1 : Int32)) + (1 : Int32)) + (1 : Int32)) + (1 : Int32))).toNatClampNeg)).toInt64)) + ((ac_ga σ 51 ((((((((((0 : Int32) + (1 : Int32)) + (1 : Int32)) + (1 : Int32)) + (1 : Int32)) + (1 : Int32)) + (1 : Int32)) + (1 : Int32)) + (1 : Int32))).toNatClampNeg)).toInt64)) + ((ac_ga σ 51 (((((((((((0 : Int32) + (1 : Int32)) + (1 : Int32)) + (1 : Int32)) + (1 : Int32)) + (1 : Int32)) + (1 : Int32)) + (1 : Int32)) + (1 : Int32)) + (1 : Int32))).toNatClampNeg)).toInt64)) + ((ac_ga σ 51 ((((((((((((0 : Int32) + (1 : Int32)) + (1 : Int32)) + (1 : Int32)) + (1 : Int32)) + (1 : Int32)) + (1 : Int32)) + (1 : Int32)) + (1 : Int32)) + (1 : Int32)) + (1 : Int32))).toNatClampNeg)).toInt64)) + ((ac_ga σ 51 (((((((((((((0 : Int32) + (1 : Int32)) + (1 : Int32)) + (1 : Int32)) + (1 : Int32)) + (1 : Int32)) + (1 : Int32)) + (1 : Int32)) + (1 : Int32)) + (1 : Int32)) + (1 : Int32)) + (1 : Int32))).toNatClampNeg)).toInt64)) + ((ac_ga σ 51 ((((((((((((((0 : Int32) + (1 : Int32)) + (1 : Int32)) + (1 : Int32)) + (1 : Int32)) + (1 : Int32)) + (1 : Int32)) + (1 : Int32)) + (1 : Int32)) + (1 : Int32)) + (1 : Int32)) + (1 : Int32)) + (1 : Int32))).toNatClampNeg)).toInt64)) + ((ac_ga σ 51 (((((((((((((((0 : Int32) + (1 : Int32)) + (1 : Int32)) + (1 : Int32)) + (1 : Int32)) + (1 : Int32)) + (1 : Int32)) + (1 : Int32)) + (1 : Int32)) + (1 : Int32)) + (1 : Int32)) + (1 : Int32)) + (1 : Int32)) + (1 : Int32))).toNatClampNeg)).toInt64)) + ((ac_ga σ 51 ((((((((((((((((0 : Int32) + (1 : Int32)) + (1 : Int32)) + (1 : Int32)) + (1 : Int32)) + (1 : Int32)) + (1 : Int32)) + (1 : Int32)) + (1 : Int32)) + (1 : Int32)) + (1 : Int32)) + (1 : Int32)) + (1 : Int32)) + (1 : Int32)) + (1 : Int32))).toNatClampNeg)).toInt64)) + ((ac_ga σ 51 (((((((((((((((((0 : Int32) + (1 : Int32)) + (1 : Int32)) + (1 : Int32)) + (1 : Int32)) + (1 : Int32)) + (1 : Int32)) + (1 : Int32)) + (1 : Int32)) + (1 : Int32)) + (1 : Int32)) + (1 : Int32)) + (1 : Int32)) + (1 : Int32)) + (1 : Int32)) + (1 : Int32))).toNatClampNeg)).toInt64)) + ((0 : Int32)).toInt64)) + ((0 : Int32)).toInt64)) + ((0 : Int32)).toInt64)) + ((0 : Int32)).toInt64)) = σ' ∧ Inv σ')) := by
  refine conL_of (by decide) (fun q => Nat.le_of_ble_eq_true rfl) (fun E C en hR => ?_)
  have hn1 : 1 < e_n E := by rw [en]; decide
  have hn2 : 2 < e_n E := by rw [en]; decide
  refine at_aload_n C 0 dX7_digest_0 rfl ?_
  refine at_ldc2 C (401 : Int64) dX7_digest_1 kc_X7_239 ?_
  refine pf_X7_235 C dX7_digest_4 ?_
  have hJ1254 := Inv.sl (v := (401 : Int64)) hI
  refine at_iconst C (0 : Int32) dX7_digest_7 (by decide) ?_
  refine at_istore_n C (lv' := [(1, .int (0 : Int32)), (0, .ref (e_q E 30))]) dX7_digest_8 hn1 rfl ?_
  refine at_iload_n C 0 dX7_digest_9 rfl ?_
  refine at_iconst C (4 : Int32) dX7_digest_10 (by decide) ?_
  refine at_icmp_ge C 29 dX7_digest_11 (by decide) (fun c1255 => absurd c1255 (iv_xle (iv_c (c := 4) (x := (4 : Int32)) (by decide)) (iv_c (c := 0) (x := (0 : Int32)) (by decide)) (by decide))) (fun c1255 => ?_)
  refine at_aload_n C 1 dX7_digest_14 rfl ?_
  refine at_aload_n C 1 dX7_digest_15 rfl ?_
  refine at_iload_n C 0 dX7_digest_16 rfl ?_
  refine at_Vi C (As := [.int (0 : Int32)]) (st := [.ref (e_q E 30)]) (b := 30) (ci := 7) (cz_X7_count (ac_sl σ (401 : Int64)) (0 : Int32) hJ1254 (show iv 0 0 (ac_gi σ 15) from gf15) (show iv 0 0 (ac_gi σ 25) from gf25) (show iv 0 0 (ac_gi σ 26) from gf26)) mb_X7_count ml_X7_241 rfl rfl rfl (by decide) rfl (Nat.le_of_ble_eq_true rfl) dX7_digest_17 ?_
  rintro _ _ (⟨c1256, rfl, rfl, hJ1257⟩ | ⟨c1258, rfl, rfl, hJ1259⟩)
  · exact absurd (iv_wk (iv_c (c := 0) (x := (0 : Int32)) (by decide)) (by decide) (by decide) : iv 0 3 (0 : Int32)) c1256
  · show AT E 20 [(1, .int (0 : Int32)), (0, .ref (e_q E 30))] [.int (0 : Int32), .ref (e_q E 30)] (ac_sl σ (401 : Int64))
    refine at_Vv C (As := [.int (0 : Int32)]) (st := []) (b := 30) (ci := 7) (cz_X7_add (ac_sl σ (401 : Int64)) (0 : Int32) hJ1254) mb_X7_add ml_X7_244 rfl rfl rfl (by decide) rfl (Nat.le_of_ble_eq_true rfl) dX7_digest_20 ?_
    rintro _ ⟨rfl, hJ1260⟩
    · obtain ⟨lw1261, hl1262⟩ : ∃ l : Int64, l = (((31 : Int64) * (401 : Int64)) + ((0 : Int32)).toInt64) := ⟨_, rfl⟩
      show AT E 23 [(1, .int (0 : Int32)), (0, .ref (e_q E 30))] [] (ac_sl σ (((31 : Int64) * (401 : Int64)) + ((0 : Int32)).toInt64))
      rw [← hl1262]
      have hJ1263 : Inv (ac_sl σ lw1261) := ⟨hJ1260.1, hJ1260.2⟩
      refine at_iinc C (v := ((0 : Int32) + (1 : Int32))) (lv' := [(1, .int ((0 : Int32) + (1 : Int32))), (0, .ref (e_q E 30))]) 0 dX7_digest_23 rfl rfl hn1 rfl ?_
      refine at_goto C 9 dX7_digest_26 (by decide) ?_
      refine at_iload_n C 0 dX7_digest_9 rfl ?_
      refine at_iconst C (4 : Int32) dX7_digest_10 (by decide) ?_
      refine at_icmp_ge C 29 dX7_digest_11 (by decide) (fun c1264 => absurd c1264 (iv_xle (iv_c (c := 4) (x := (4 : Int32)) (by decide)) (iv_add (iv_c (c := 0) (x := (0 : Int32)) (by decide)) (iv_c (c := 1) (x := (1 : Int32)) (by decide)) (by decide) (by decide)) (by decide))) (fun c1264 => ?_)
      refine at_aload_n C 1 dX7_digest_14 rfl ?_
      refine at_aload_n C 1 dX7_digest_15 rfl ?_
      refine at_iload_n C 0 dX7_digest_16 rfl ?_
      refine at_Vi C (As := [.int ((0 : Int32) + (1 : Int32))]) (st := [.ref (e_q E 30)]) (b := 30) (ci := 7) (cz_X7_count (ac_sl σ lw1261) ((0 : Int32) + (1 : Int32)) hJ1263 (show iv 0 0 (ac_gi σ 15) from gf15) (show iv 0 0 (ac_gi σ 25) from gf25) (show iv 0 0 (ac_gi σ 26) from gf26)) mb_X7_count ml_X7_241 rfl rfl rfl (by decide) rfl (Nat.le_of_ble_eq_true rfl) dX7_digest_17 ?_
      rintro _ _ (⟨c1265, rfl, rfl, hJ1266⟩ | ⟨c1267, rfl, rfl, hJ1268⟩)
      · exact absurd (iv_wk (iv_add (iv_c (c := 0) (x := (0 : Int32)) (by decide)) (iv_c (c := 1) (x := (1 : Int32)) (by decide)) (by decide) (by decide)) (by decide) (by decide) : iv 0 3 ((0 : Int32) + (1 : Int32))) c1265
      · show AT E 20 [(1, .int ((0 : Int32) + (1 : Int32))), (0, .ref (e_q E 30))] [.int (0 : Int32), .ref (e_q E 30)] (ac_sl σ lw1261)
        refine at_Vv C (As := [.int (0 : Int32)]) (st := []) (b := 30) (ci := 7) (cz_X7_add (ac_sl σ lw1261) (0 : Int32) hJ1263) mb_X7_add ml_X7_244 rfl rfl rfl (by decide) rfl (Nat.le_of_ble_eq_true rfl) dX7_digest_20 ?_
        rintro _ ⟨rfl, hJ1269⟩
        · obtain ⟨lw1270, hl1271⟩ : ∃ l : Int64, l = (((31 : Int64) * lw1261) + ((0 : Int32)).toInt64) := ⟨_, rfl⟩
          show AT E 23 [(1, .int ((0 : Int32) + (1 : Int32))), (0, .ref (e_q E 30))] [] (ac_sl σ (((31 : Int64) * lw1261) + ((0 : Int32)).toInt64))
          rw [← hl1271]
          have hJ1272 : Inv (ac_sl σ lw1270) := ⟨hJ1269.1, hJ1269.2⟩
          refine at_iinc C (v := (((0 : Int32) + (1 : Int32)) + (1 : Int32))) (lv' := [(1, .int (((0 : Int32) + (1 : Int32)) + (1 : Int32))), (0, .ref (e_q E 30))]) 0 dX7_digest_23 rfl rfl hn1 rfl ?_
          refine at_goto C 9 dX7_digest_26 (by decide) ?_
          refine at_iload_n C 0 dX7_digest_9 rfl ?_
          refine at_iconst C (4 : Int32) dX7_digest_10 (by decide) ?_
          refine at_icmp_ge C 29 dX7_digest_11 (by decide) (fun c1273 => absurd c1273 (iv_xle (iv_c (c := 4) (x := (4 : Int32)) (by decide)) (iv_add (iv_add (iv_c (c := 0) (x := (0 : Int32)) (by decide)) (iv_c (c := 1) (x := (1 : Int32)) (by decide)) (by decide) (by decide)) (iv_c (c := 1) (x := (1 : Int32)) (by decide)) (by decide) (by decide)) (by decide))) (fun c1273 => ?_)
          refine at_aload_n C 1 dX7_digest_14 rfl ?_
          refine at_aload_n C 1 dX7_digest_15 rfl ?_
          refine at_iload_n C 0 dX7_digest_16 rfl ?_
          refine at_Vi C (As := [.int (((0 : Int32) + (1 : Int32)) + (1 : Int32))]) (st := [.ref (e_q E 30)]) (b := 30) (ci := 7) (cz_X7_count (ac_sl σ lw1270) (((0 : Int32) + (1 : Int32)) + (1 : Int32)) hJ1272 (show iv 0 0 (ac_gi σ 15) from gf15) (show iv 0 0 (ac_gi σ 25) from gf25) (show iv 0 0 (ac_gi σ 26) from gf26)) mb_X7_count ml_X7_241 rfl rfl rfl (by decide) rfl (Nat.le_of_ble_eq_true rfl) dX7_digest_17 ?_
          rintro _ _ (⟨c1274, rfl, rfl, hJ1275⟩ | ⟨c1276, rfl, rfl, hJ1277⟩)
          · exact absurd (iv_wk (iv_add (iv_add (iv_c (c := 0) (x := (0 : Int32)) (by decide)) (iv_c (c := 1) (x := (1 : Int32)) (by decide)) (by decide) (by decide)) (iv_c (c := 1) (x := (1 : Int32)) (by decide)) (by decide) (by decide)) (by decide) (by decide) : iv 0 3 (((0 : Int32) + (1 : Int32)) + (1 : Int32))) c1274
          · show AT E 20 [(1, .int (((0 : Int32) + (1 : Int32)) + (1 : Int32))), (0, .ref (e_q E 30))] [.int (0 : Int32), .ref (e_q E 30)] (ac_sl σ lw1270)
            refine at_Vv C (As := [.int (0 : Int32)]) (st := []) (b := 30) (ci := 7) (cz_X7_add (ac_sl σ lw1270) (0 : Int32) hJ1272) mb_X7_add ml_X7_244 rfl rfl rfl (by decide) rfl (Nat.le_of_ble_eq_true rfl) dX7_digest_20 ?_
            rintro _ ⟨rfl, hJ1278⟩
            · obtain ⟨lw1279, hl1280⟩ : ∃ l : Int64, l = (((31 : Int64) * lw1270) + ((0 : Int32)).toInt64) := ⟨_, rfl⟩
              show AT E 23 [(1, .int (((0 : Int32) + (1 : Int32)) + (1 : Int32))), (0, .ref (e_q E 30))] [] (ac_sl σ (((31 : Int64) * lw1270) + ((0 : Int32)).toInt64))
              rw [← hl1280]
              have hJ1281 : Inv (ac_sl σ lw1279) := ⟨hJ1278.1, hJ1278.2⟩
              refine at_iinc C (v := ((((0 : Int32) + (1 : Int32)) + (1 : Int32)) + (1 : Int32))) (lv' := [(1, .int ((((0 : Int32) + (1 : Int32)) + (1 : Int32)) + (1 : Int32))), (0, .ref (e_q E 30))]) 0 dX7_digest_23 rfl rfl hn1 rfl ?_
              refine at_goto C 9 dX7_digest_26 (by decide) ?_
              refine at_iload_n C 0 dX7_digest_9 rfl ?_
              refine at_iconst C (4 : Int32) dX7_digest_10 (by decide) ?_
              refine at_icmp_ge C 29 dX7_digest_11 (by decide) (fun c1282 => absurd c1282 (iv_xle (iv_c (c := 4) (x := (4 : Int32)) (by decide)) (iv_add (iv_add (iv_add (iv_c (c := 0) (x := (0 : Int32)) (by decide)) (iv_c (c := 1) (x := (1 : Int32)) (by decide)) (by decide) (by decide)) (iv_c (c := 1) (x := (1 : Int32)) (by decide)) (by decide) (by decide)) (iv_c (c := 1) (x := (1 : Int32)) (by decide)) (by decide) (by decide)) (by decide))) (fun c1282 => ?_)
              refine at_aload_n C 1 dX7_digest_14 rfl ?_
              refine at_aload_n C 1 dX7_digest_15 rfl ?_
              refine at_iload_n C 0 dX7_digest_16 rfl ?_
              refine at_Vi C (As := [.int ((((0 : Int32) + (1 : Int32)) + (1 : Int32)) + (1 : Int32))]) (st := [.ref (e_q E 30)]) (b := 30) (ci := 7) (cz_X7_count (ac_sl σ lw1279) ((((0 : Int32) + (1 : Int32)) + (1 : Int32)) + (1 : Int32)) hJ1281 (show iv 0 0 (ac_gi σ 15) from gf15) (show iv 0 0 (ac_gi σ 25) from gf25) (show iv 0 0 (ac_gi σ 26) from gf26)) mb_X7_count ml_X7_241 rfl rfl rfl (by decide) rfl (Nat.le_of_ble_eq_true rfl) dX7_digest_17 ?_
              rintro _ _ (⟨c1283, rfl, rfl, hJ1284⟩ | ⟨c1285, rfl, rfl, hJ1286⟩)
              · exact absurd (iv_wk (iv_add (iv_add (iv_add (iv_c (c := 0) (x := (0 : Int32)) (by decide)) (iv_c (c := 1) (x := (1 : Int32)) (by decide)) (by decide) (by decide)) (iv_c (c := 1) (x := (1 : Int32)) (by decide)) (by decide) (by decide)) (iv_c (c := 1) (x := (1 : Int32)) (by decide)) (by decide) (by decide)) (by decide) (by decide) : iv 0 3 ((((0 : Int32) + (1 : Int32)) + (1 : Int32)) + (1 : Int32))) c1283
              · show AT E 20 [(1, .int ((((0 : Int32) + (1 : Int32)) + (1 : Int32)) + (1 : Int32))), (0, .ref (e_q E 30))] [.int (0 : Int32), .ref (e_q E 30)] (ac_sl σ lw1279)
                refine at_Vv C (As := [.int (0 : Int32)]) (st := []) (b := 30) (ci := 7) (cz_X7_add (ac_sl σ lw1279) (0 : Int32) hJ1281) mb_X7_add ml_X7_244 rfl rfl rfl (by decide) rfl (Nat.le_of_ble_eq_true rfl) dX7_digest_20 ?_
                rintro _ ⟨rfl, hJ1287⟩
                · obtain ⟨lw1288, hl1289⟩ : ∃ l : Int64, l = (((31 : Int64) * lw1279) + ((0 : Int32)).toInt64) := ⟨_, rfl⟩
                  show AT E 23 [(1, .int ((((0 : Int32) + (1 : Int32)) + (1 : Int32)) + (1 : Int32))), (0, .ref (e_q E 30))] [] (ac_sl σ (((31 : Int64) * lw1279) + ((0 : Int32)).toInt64))
                  rw [← hl1289]
                  have hJ1290 : Inv (ac_sl σ lw1288) := ⟨hJ1287.1, hJ1287.2⟩
                  refine at_iinc C (v := (((((0 : Int32) + (1 : Int32)) + (1 : Int32)) + (1 : Int32)) + (1 : Int32))) (lv' := [(1, .int (((((0 : Int32) + (1 : Int32)) + (1 : Int32)) + (1 : Int32)) + (1 : Int32))), (0, .ref (e_q E 30))]) 0 dX7_digest_23 rfl rfl hn1 rfl ?_
                  refine at_goto C 9 dX7_digest_26 (by decide) ?_
                  refine at_iload_n C 0 dX7_digest_9 rfl ?_
                  refine at_iconst C (4 : Int32) dX7_digest_10 (by decide) ?_
                  refine at_icmp_ge C 29 dX7_digest_11 (by decide) (fun c1291 => ?_) (fun c1291 => absurd (Int32.not_le.mp c1291) (iv_xlt (iv_add (iv_add (iv_add (iv_add (iv_c (c := 0) (x := (0 : Int32)) (by decide)) (iv_c (c := 1) (x := (1 : Int32)) (by decide)) (by decide) (by decide)) (iv_c (c := 1) (x := (1 : Int32)) (by decide)) (by decide) (by decide)) (iv_c (c := 1) (x := (1 : Int32)) (by decide)) (by decide) (by decide)) (iv_c (c := 1) (x := (1 : Int32)) (by decide)) (by decide) (by decide)) (iv_c (c := 4) (x := (4 : Int32)) (by decide)) (by decide)))
                  refine at_aload_n C 1 dX7_digest_29 rfl ?_
                  refine at_aload_n C 1 dX7_digest_30 rfl ?_
                  refine gf_X7_7 C dX7_digest_31 ?_
                  show AT E 34 [(1, .int (((((0 : Int32) + (1 : Int32)) + (1 : Int32)) + (1 : Int32)) + (1 : Int32))), (0, .ref (e_q E 30))] [.int (ac_gi σ 16), .ref (e_q E 30)] (ac_sl σ lw1288)
                  refine at_Vv C (As := [.int (ac_gi σ 16)]) (st := []) (b := 30) (ci := 7) (cz_X7_add (ac_sl σ lw1288) (ac_gi σ 16) hJ1290) mb_X7_add ml_X7_244 rfl rfl rfl (by decide) rfl (Nat.le_of_ble_eq_true rfl) dX7_digest_34 ?_
                  rintro _ ⟨rfl, hJ1292⟩
                  · obtain ⟨lw1293, hl1294⟩ : ∃ l : Int64, l = (((31 : Int64) * lw1288) + ((ac_gi σ 16)).toInt64) := ⟨_, rfl⟩
                    show AT E 37 [(1, .int (((((0 : Int32) + (1 : Int32)) + (1 : Int32)) + (1 : Int32)) + (1 : Int32))), (0, .ref (e_q E 30))] [] (ac_sl σ (((31 : Int64) * lw1288) + ((ac_gi σ 16)).toInt64))
                    rw [← hl1294]
                    have hJ1295 : Inv (ac_sl σ lw1293) := ⟨hJ1292.1, hJ1292.2⟩
                    refine at_aload_n C 1 dX7_digest_37 rfl ?_
                    refine at_aload_n C 1 dX7_digest_38 rfl ?_
                    refine gf_X7_13 C dX7_digest_39 ?_
                    show AT E 42 [(1, .int (((((0 : Int32) + (1 : Int32)) + (1 : Int32)) + (1 : Int32)) + (1 : Int32))), (0, .ref (e_q E 30))] [.int (ac_gi σ 17), .ref (e_q E 30)] (ac_sl σ lw1293)
                    refine at_Vv C (As := [.int (ac_gi σ 17)]) (st := []) (b := 30) (ci := 7) (cz_X7_add (ac_sl σ lw1293) (ac_gi σ 17) hJ1295) mb_X7_add ml_X7_244 rfl rfl rfl (by decide) rfl (Nat.le_of_ble_eq_true rfl) dX7_digest_42 ?_
                    rintro _ ⟨rfl, hJ1296⟩
                    · obtain ⟨lw1297, hl1298⟩ : ∃ l : Int64, l = (((31 : Int64) * lw1293) + ((ac_gi σ 17)).toInt64) := ⟨_, rfl⟩
                      show AT E 45 [(1, .int (((((0 : Int32) + (1 : Int32)) + (1 : Int32)) + (1 : Int32)) + (1 : Int32))), (0, .ref (e_q E 30))] [] (ac_sl σ (((31 : Int64) * lw1293) + ((ac_gi σ 17)).toInt64))
                      rw [← hl1298]
                      have hJ1299 : Inv (ac_sl σ lw1297) := ⟨hJ1296.1, hJ1296.2⟩
                      refine at_aload_n C 1 dX7_digest_45 rfl ?_
                      refine at_aload_n C 1 dX7_digest_46 rfl ?_
                      refine gf_X7_42 C dX7_digest_47 ?_
                      show AT E 50 [(1, .int (((((0 : Int32) + (1 : Int32)) + (1 : Int32)) + (1 : Int32)) + (1 : Int32))), (0, .ref (e_q E 30))] [.int (ac_gi σ 20), .ref (e_q E 30)] (ac_sl σ lw1297)
                      refine at_Vv C (As := [.int (ac_gi σ 20)]) (st := []) (b := 30) (ci := 7) (cz_X7_add (ac_sl σ lw1297) (ac_gi σ 20) hJ1299) mb_X7_add ml_X7_244 rfl rfl rfl (by decide) rfl (Nat.le_of_ble_eq_true rfl) dX7_digest_50 ?_
                      rintro _ ⟨rfl, hJ1300⟩
                      · obtain ⟨lw1301, hl1302⟩ : ∃ l : Int64, l = (((31 : Int64) * lw1297) + ((ac_gi σ 20)).toInt64) := ⟨_, rfl⟩
                        show AT E 53 [(1, .int (((((0 : Int32) + (1 : Int32)) + (1 : Int32)) + (1 : Int32)) + (1 : Int32))), (0, .ref (e_q E 30))] [] (ac_sl σ (((31 : Int64) * lw1297) + ((ac_gi σ 20)).toInt64))
                        rw [← hl1302]
                        have hJ1303 : Inv (ac_sl σ lw1301) := ⟨hJ1300.1, hJ1300.2⟩
                        refine at_aload_n C 1 dX7_digest_53 rfl ?_
                        refine at_aload_n C 1 dX7_digest_54 rfl ?_
                        refine gf_X7_45 C dX7_digest_55 ?_
                        show AT E 58 [(1, .int (((((0 : Int32) + (1 : Int32)) + (1 : Int32)) + (1 : Int32)) + (1 : Int32))), (0, .ref (e_q E 30))] [.int (ac_gi σ 21), .ref (e_q E 30)] (ac_sl σ lw1301)
                        refine at_Vv C (As := [.int (ac_gi σ 21)]) (st := []) (b := 30) (ci := 7) (cz_X7_add (ac_sl σ lw1301) (ac_gi σ 21) hJ1303) mb_X7_add ml_X7_244 rfl rfl rfl (by decide) rfl (Nat.le_of_ble_eq_true rfl) dX7_digest_58 ?_
                        rintro _ ⟨rfl, hJ1304⟩
                        · obtain ⟨lw1305, hl1306⟩ : ∃ l : Int64, l = (((31 : Int64) * lw1301) + ((ac_gi σ 21)).toInt64) := ⟨_, rfl⟩
                          show AT E 61 [(1, .int (((((0 : Int32) + (1 : Int32)) + (1 : Int32)) + (1 : Int32)) + (1 : Int32))), (0, .ref (e_q E 30))] [] (ac_sl σ (((31 : Int64) * lw1301) + ((ac_gi σ 21)).toInt64))
                          rw [← hl1306]
                          have hJ1307 : Inv (ac_sl σ lw1305) := ⟨hJ1304.1, hJ1304.2⟩
                          refine at_iconst C (0 : Int32) dX7_digest_61 (by decide) ?_
                          refine at_istore_n C (lv' := [(1, .int (0 : Int32)), (0, .ref (e_q E 30))]) dX7_digest_62 hn1 rfl ?_
                          refine at_iload_n C 0 dX7_digest_63 rfl ?_
                          refine at_aload_n C 1 dX7_digest_64 rfl ?_
                          refine gf_X7_87 C dX7_digest_65 ?_
                          show AT E 68 [(1, .int (0 : Int32)), (0, .ref (e_q E 30))] [.int (ac_gi σ 15), .int (0 : Int32)] (ac_sl σ lw1305)
                          refine at_icmp_ge C 189 dX7_digest_68 (by decide) (fun c1308 => ?_) (fun c1308 => absurd (Int32.not_le.mp c1308) (iv_xlt (iv_c (c := 0) (x := (0 : Int32)) (by decide)) gf15 (by decide)))
                          refine at_iconst C (0 : Int32) dX7_digest_189 (by decide) ?_
                          refine at_istore_n C (lv' := [(1, .int (0 : Int32)), (0, .ref (e_q E 30))]) dX7_digest_190 hn1 rfl ?_
                          refine at_iload_n C 0 dX7_digest_191 rfl ?_
                          refine at_aload_n C 1 dX7_digest_192 rfl ?_
                          refine gf_X7_191 C dX7_digest_193 ?_
                          show AT E 196 [(1, .int (0 : Int32)), (0, .ref (e_q E 30))] [.int (ac_gi σ 26), .int (0 : Int32)] (ac_sl σ lw1305)
                          refine at_icmp_ge C 235 dX7_digest_196 (by decide) (fun c1309 => ?_) (fun c1309 => absurd (Int32.not_le.mp c1309) (iv_xlt (iv_c (c := 0) (x := (0 : Int32)) (by decide)) gf26 (by decide)))
                          refine at_iconst C (0 : Int32) dX7_digest_235 (by decide) ?_
                          refine at_istore_n C (lv' := [(1, .int (0 : Int32)), (0, .ref (e_q E 30))]) dX7_digest_236 hn1 rfl ?_
                          refine at_iload_n C 0 dX7_digest_237 rfl ?_
                          refine at_aload_n C 1 dX7_digest_238 rfl ?_
                          refine gf_X7_183 C dX7_digest_239 ?_
                          show AT E 242 [(1, .int (0 : Int32)), (0, .ref (e_q E 30))] [.int (ac_gi σ 25), .int (0 : Int32)] (ac_sl σ lw1305)
                          refine at_icmp_ge C 261 dX7_digest_242 (by decide) (fun c1310 => ?_) (fun c1310 => absurd (Int32.not_le.mp c1310) (iv_xlt (iv_c (c := 0) (x := (0 : Int32)) (by decide)) gf25 (by decide)))
                          refine at_iconst C (0 : Int32) dX7_digest_261 (by decide) ?_
                          refine at_istore_n C (lv' := [(1, .int (0 : Int32)), (0, .ref (e_q E 30))]) dX7_digest_262 hn1 rfl ?_
                          refine at_iload_n C 0 dX7_digest_263 rfl ?_
                          refine at_bipush C (16 : Int32) dX7_digest_264 (by decide) ?_
                          refine at_icmp_ge C 285 dX7_digest_266 (by decide) (fun c1311 => absurd c1311 (iv_xle (iv_c (c := 16) (x := (16 : Int32)) (by decide)) (iv_c (c := 0) (x := (0 : Int32)) (by decide)) (by decide))) (fun c1311 => ?_)
                          refine at_aload_n C 1 dX7_digest_269 rfl ?_
                          refine at_aload_n C 1 dX7_digest_270 rfl ?_
                          refine gf_X7_84 C dX7_digest_271 ?_
                          refine at_iload_n C 0 dX7_digest_274 rfl ?_
                          refine at_iald C (c := 51) rfl (iv_in (n := 16) (iv_c (c := 0) (x := (0 : Int32)) (by decide)) (by decide) (by decide)) dX7_digest_275 ?_
                          show AT E 276 [(1, .int (0 : Int32)), (0, .ref (e_q E 30))] [.int (ac_ga σ 51 ((0 : Int32)).toNatClampNeg), .ref (e_q E 30)] (ac_sl σ lw1305)
                          refine at_Vv C (As := [.int (ac_ga σ 51 ((0 : Int32)).toNatClampNeg)]) (st := []) (b := 30) (ci := 7) (cz_X7_add (ac_sl σ lw1305) (ac_ga σ 51 ((0 : Int32)).toNatClampNeg) hJ1307) mb_X7_add ml_X7_244 rfl rfl rfl (by decide) rfl (Nat.le_of_ble_eq_true rfl) dX7_digest_276 ?_
                          rintro _ ⟨rfl, hJ1312⟩
                          · obtain ⟨lw1313, hl1314⟩ : ∃ l : Int64, l = (((31 : Int64) * lw1305) + ((ac_ga σ 51 ((0 : Int32)).toNatClampNeg)).toInt64) := ⟨_, rfl⟩
                            show AT E 279 [(1, .int (0 : Int32)), (0, .ref (e_q E 30))] [] (ac_sl σ (((31 : Int64) * lw1305) + ((ac_ga σ 51 ((0 : Int32)).toNatClampNeg)).toInt64))
                            rw [← hl1314]
                            have hJ1315 : Inv (ac_sl σ lw1313) := ⟨hJ1312.1, hJ1312.2⟩
                            refine at_iinc C (v := ((0 : Int32) + (1 : Int32))) (lv' := [(1, .int ((0 : Int32) + (1 : Int32))), (0, .ref (e_q E 30))]) 0 dX7_digest_279 rfl rfl hn1 rfl ?_
                            refine at_goto C 263 dX7_digest_282 (by decide) ?_
                            refine at_iload_n C 0 dX7_digest_263 rfl ?_
                            refine at_bipush C (16 : Int32) dX7_digest_264 (by decide) ?_
                            refine at_icmp_ge C 285 dX7_digest_266 (by decide) (fun c1316 => absurd c1316 (iv_xle (iv_c (c := 16) (x := (16 : Int32)) (by decide)) (iv_add (iv_c (c := 0) (x := (0 : Int32)) (by decide)) (iv_c (c := 1) (x := (1 : Int32)) (by decide)) (by decide) (by decide)) (by decide))) (fun c1316 => ?_)
                            refine at_aload_n C 1 dX7_digest_269 rfl ?_
                            refine at_aload_n C 1 dX7_digest_270 rfl ?_
                            refine gf_X7_84 C dX7_digest_271 ?_
                            refine at_iload_n C 0 dX7_digest_274 rfl ?_
                            refine at_iald C (c := 51) rfl (iv_in (n := 16) (iv_add (iv_c (c := 0) (x := (0 : Int32)) (by decide)) (iv_c (c := 1) (x := (1 : Int32)) (by decide)) (by decide) (by decide)) (by decide) (by decide)) dX7_digest_275 ?_
                            show AT E 276 [(1, .int ((0 : Int32) + (1 : Int32))), (0, .ref (e_q E 30))] [.int (ac_ga σ 51 (((0 : Int32) + (1 : Int32))).toNatClampNeg), .ref (e_q E 30)] (ac_sl σ lw1313)
                            refine at_Vv C (As := [.int (ac_ga σ 51 (((0 : Int32) + (1 : Int32))).toNatClampNeg)]) (st := []) (b := 30) (ci := 7) (cz_X7_add (ac_sl σ lw1313) (ac_ga σ 51 (((0 : Int32) + (1 : Int32))).toNatClampNeg) hJ1315) mb_X7_add ml_X7_244 rfl rfl rfl (by decide) rfl (Nat.le_of_ble_eq_true rfl) dX7_digest_276 ?_
                            rintro _ ⟨rfl, hJ1317⟩
                            · obtain ⟨lw1318, hl1319⟩ : ∃ l : Int64, l = (((31 : Int64) * lw1313) + ((ac_ga σ 51 (((0 : Int32) + (1 : Int32))).toNatClampNeg)).toInt64) := ⟨_, rfl⟩
                              show AT E 279 [(1, .int ((0 : Int32) + (1 : Int32))), (0, .ref (e_q E 30))] [] (ac_sl σ (((31 : Int64) * lw1313) + ((ac_ga σ 51 (((0 : Int32) + (1 : Int32))).toNatClampNeg)).toInt64))
                              rw [← hl1319]
                              have hJ1320 : Inv (ac_sl σ lw1318) := ⟨hJ1317.1, hJ1317.2⟩
                              refine at_iinc C (v := (((0 : Int32) + (1 : Int32)) + (1 : Int32))) (lv' := [(1, .int (((0 : Int32) + (1 : Int32)) + (1 : Int32))), (0, .ref (e_q E 30))]) 0 dX7_digest_279 rfl rfl hn1 rfl ?_
                              refine at_goto C 263 dX7_digest_282 (by decide) ?_
                              refine at_iload_n C 0 dX7_digest_263 rfl ?_
                              refine at_bipush C (16 : Int32) dX7_digest_264 (by decide) ?_
                              refine at_icmp_ge C 285 dX7_digest_266 (by decide) (fun c1321 => absurd c1321 (iv_xle (iv_c (c := 16) (x := (16 : Int32)) (by decide)) (iv_add (iv_add (iv_c (c := 0) (x := (0 : Int32)) (by decide)) (iv_c (c := 1) (x := (1 : Int32)) (by decide)) (by decide) (by decide)) (iv_c (c := 1) (x := (1 : Int32)) (by decide)) (by decide) (by decide)) (by decide))) (fun c1321 => ?_)
                              refine at_aload_n C 1 dX7_digest_269 rfl ?_
                              refine at_aload_n C 1 dX7_digest_270 rfl ?_
                              refine gf_X7_84 C dX7_digest_271 ?_
                              refine at_iload_n C 0 dX7_digest_274 rfl ?_
                              refine at_iald C (c := 51) rfl (iv_in (n := 16) (iv_add (iv_add (iv_c (c := 0) (x := (0 : Int32)) (by decide)) (iv_c (c := 1) (x := (1 : Int32)) (by decide)) (by decide) (by decide)) (iv_c (c := 1) (x := (1 : Int32)) (by decide)) (by decide) (by decide)) (by decide) (by decide)) dX7_digest_275 ?_
                              show AT E 276 [(1, .int (((0 : Int32) + (1 : Int32)) + (1 : Int32))), (0, .ref (e_q E 30))] [.int (ac_ga σ 51 ((((0 : Int32) + (1 : Int32)) + (1 : Int32))).toNatClampNeg), .ref (e_q E 30)] (ac_sl σ lw1318)
                              refine at_Vv C (As := [.int (ac_ga σ 51 ((((0 : Int32) + (1 : Int32)) + (1 : Int32))).toNatClampNeg)]) (st := []) (b := 30) (ci := 7) (cz_X7_add (ac_sl σ lw1318) (ac_ga σ 51 ((((0 : Int32) + (1 : Int32)) + (1 : Int32))).toNatClampNeg) hJ1320) mb_X7_add ml_X7_244 rfl rfl rfl (by decide) rfl (Nat.le_of_ble_eq_true rfl) dX7_digest_276 ?_
                              rintro _ ⟨rfl, hJ1322⟩
                              · obtain ⟨lw1323, hl1324⟩ : ∃ l : Int64, l = (((31 : Int64) * lw1318) + ((ac_ga σ 51 ((((0 : Int32) + (1 : Int32)) + (1 : Int32))).toNatClampNeg)).toInt64) := ⟨_, rfl⟩
                                show AT E 279 [(1, .int (((0 : Int32) + (1 : Int32)) + (1 : Int32))), (0, .ref (e_q E 30))] [] (ac_sl σ (((31 : Int64) * lw1318) + ((ac_ga σ 51 ((((0 : Int32) + (1 : Int32)) + (1 : Int32))).toNatClampNeg)).toInt64))
                                rw [← hl1324]
                                have hJ1325 : Inv (ac_sl σ lw1323) := ⟨hJ1322.1, hJ1322.2⟩
                                refine at_iinc C (v := ((((0 : Int32) + (1 : Int32)) + (1 : Int32)) + (1 : Int32))) (lv' := [(1, .int ((((0 : Int32) + (1 : Int32)) + (1 : Int32)) + (1 : Int32))), (0, .ref (e_q E 30))]) 0 dX7_digest_279 rfl rfl hn1 rfl ?_
                                refine at_goto C 263 dX7_digest_282 (by decide) ?_
                                refine at_iload_n C 0 dX7_digest_263 rfl ?_
                                refine at_bipush C (16 : Int32) dX7_digest_264 (by decide) ?_
                                refine at_icmp_ge C 285 dX7_digest_266 (by decide) (fun c1326 => absurd c1326 (iv_xle (iv_c (c := 16) (x := (16 : Int32)) (by decide)) (iv_add (iv_add (iv_add (iv_c (c := 0) (x := (0 : Int32)) (by decide)) (iv_c (c := 1) (x := (1 : Int32)) (by decide)) (by decide) (by decide)) (iv_c (c := 1) (x := (1 : Int32)) (by decide)) (by decide) (by decide)) (iv_c (c := 1) (x := (1 : Int32)) (by decide)) (by decide) (by decide)) (by decide))) (fun c1326 => ?_)
                                refine at_aload_n C 1 dX7_digest_269 rfl ?_
                                refine at_aload_n C 1 dX7_digest_270 rfl ?_
                                refine gf_X7_84 C dX7_digest_271 ?_
                                refine at_iload_n C 0 dX7_digest_274 rfl ?_
                                refine at_iald C (c := 51) rfl (iv_in (n := 16) (iv_add (iv_add (iv_add (iv_c (c := 0) (x := (0 : Int32)) (by decide)) (iv_c (c := 1) (x := (1 : Int32)) (by decide)) (by decide) (by decide)) (iv_c (c := 1) (x := (1 : Int32)) (by decide)) (by decide) (by decide)) (iv_c (c := 1) (x := (1 : Int32)) (by decide)) (by decide) (by decide)) (by decide) (by decide)) dX7_digest_275 ?_
                                show AT E 276 [(1, .int ((((0 : Int32) + (1 : Int32)) + (1 : Int32)) + (1 : Int32))), (0, .ref (e_q E 30))] [.int (ac_ga σ 51 (((((0 : Int32) + (1 : Int32)) + (1 : Int32)) + (1 : Int32))).toNatClampNeg), .ref (e_q E 30)] (ac_sl σ lw1323)
                                refine at_Vv C (As := [.int (ac_ga σ 51 (((((0 : Int32) + (1 : Int32)) + (1 : Int32)) + (1 : Int32))).toNatClampNeg)]) (st := []) (b := 30) (ci := 7) (cz_X7_add (ac_sl σ lw1323) (ac_ga σ 51 (((((0 : Int32) + (1 : Int32)) + (1 : Int32)) + (1 : Int32))).toNatClampNeg) hJ1325) mb_X7_add ml_X7_244 rfl rfl rfl (by decide) rfl (Nat.le_of_ble_eq_true rfl) dX7_digest_276 ?_
                                rintro _ ⟨rfl, hJ1327⟩
                                · obtain ⟨lw1328, hl1329⟩ : ∃ l : Int64, l = (((31 : Int64) * lw1323) + ((ac_ga σ 51 (((((0 : Int32) + (1 : Int32)) + (1 : Int32)) + (1 : Int32))).toNatClampNeg)).toInt64) := ⟨_, rfl⟩
                                  show AT E 279 [(1, .int ((((0 : Int32) + (1 : Int32)) + (1 : Int32)) + (1 : Int32))), (0, .ref (e_q E 30))] [] (ac_sl σ (((31 : Int64) * lw1323) + ((ac_ga σ 51 (((((0 : Int32) + (1 : Int32)) + (1 : Int32)) + (1 : Int32))).toNatClampNeg)).toInt64))
                                  rw [← hl1329]
                                  have hJ1330 : Inv (ac_sl σ lw1328) := ⟨hJ1327.1, hJ1327.2⟩
                                  refine at_iinc C (v := (((((0 : Int32) + (1 : Int32)) + (1 : Int32)) + (1 : Int32)) + (1 : Int32))) (lv' := [(1, .int (((((0 : Int32) + (1 : Int32)) + (1 : Int32)) + (1 : Int32)) + (1 : Int32))), (0, .ref (e_q E 30))]) 0 dX7_digest_279 rfl rfl hn1 rfl ?_
                                  refine at_goto C 263 dX7_digest_282 (by decide) ?_
                                  refine at_iload_n C 0 dX7_digest_263 rfl ?_
                                  refine at_bipush C (16 : Int32) dX7_digest_264 (by decide) ?_
                                  refine at_icmp_ge C 285 dX7_digest_266 (by decide) (fun c1331 => absurd c1331 (iv_xle (iv_c (c := 16) (x := (16 : Int32)) (by decide)) (iv_add (iv_add (iv_add (iv_add (iv_c (c := 0) (x := (0 : Int32)) (by decide)) (iv_c (c := 1) (x := (1 : Int32)) (by decide)) (by decide) (by decide)) (iv_c (c := 1) (x := (1 : Int32)) (by decide)) (by decide) (by decide)) (iv_c (c := 1) (x := (1 : Int32)) (by decide)) (by decide) (by decide)) (iv_c (c := 1) (x := (1 : Int32)) (by decide)) (by decide) (by decide)) (by decide))) (fun c1331 => ?_)
                                  refine at_aload_n C 1 dX7_digest_269 rfl ?_
                                  refine at_aload_n C 1 dX7_digest_270 rfl ?_
                                  refine gf_X7_84 C dX7_digest_271 ?_
                                  refine at_iload_n C 0 dX7_digest_274 rfl ?_
                                  refine at_iald C (c := 51) rfl (iv_in (n := 16) (iv_add (iv_add (iv_add (iv_add (iv_c (c := 0) (x := (0 : Int32)) (by decide)) (iv_c (c := 1) (x := (1 : Int32)) (by decide)) (by decide) (by decide)) (iv_c (c := 1) (x := (1 : Int32)) (by decide)) (by decide) (by decide)) (iv_c (c := 1) (x := (1 : Int32)) (by decide)) (by decide) (by decide)) (iv_c (c := 1) (x := (1 : Int32)) (by decide)) (by decide) (by decide)) (by decide) (by decide)) dX7_digest_275 ?_
                                  show AT E 276 [(1, .int (((((0 : Int32) + (1 : Int32)) + (1 : Int32)) + (1 : Int32)) + (1 : Int32))), (0, .ref (e_q E 30))] [.int (ac_ga σ 51 ((((((0 : Int32) + (1 : Int32)) + (1 : Int32)) + (1 : Int32)) + (1 : Int32))).toNatClampNeg), .ref (e_q E 30)] (ac_sl σ lw1328)
                                  refine at_Vv C (As := [.int (ac_ga σ 51 ((((((0 : Int32) + (1 : Int32)) + (1 : Int32)) + (1 : Int32)) + (1 : Int32))).toNatClampNeg)]) (st := []) (b := 30) (ci := 7) (cz_X7_add (ac_sl σ lw1328) (ac_ga σ 51 ((((((0 : Int32) + (1 : Int32)) + (1 : Int32)) + (1 : Int32)) + (1 : Int32))).toNatClampNeg) hJ1330) mb_X7_add ml_X7_244 rfl rfl rfl (by decide) rfl (Nat.le_of_ble_eq_true rfl) dX7_digest_276 ?_
                                  rintro _ ⟨rfl, hJ1332⟩
                                  · obtain ⟨lw1333, hl1334⟩ : ∃ l : Int64, l = (((31 : Int64) * lw1328) + ((ac_ga σ 51 ((((((0 : Int32) + (1 : Int32)) + (1 : Int32)) + (1 : Int32)) + (1 : Int32))).toNatClampNeg)).toInt64) := ⟨_, rfl⟩
                                    show AT E 279 [(1, .int (((((0 : Int32) + (1 : Int32)) + (1 : Int32)) + (1 : Int32)) + (1 : Int32))), (0, .ref (e_q E 30))] [] (ac_sl σ (((31 : Int64) * lw1328) + ((ac_ga σ 51 ((((((0 : Int32) + (1 : Int32)) + (1 : Int32)) + (1 : Int32)) + (1 : Int32))).toNatClampNeg)).toInt64))
                                    rw [← hl1334]
                                    have hJ1335 : Inv (ac_sl σ lw1333) := ⟨hJ1332.1, hJ1332.2⟩
                                    refine at_iinc C (v := ((((((0 : Int32) + (1 : Int32)) + (1 : Int32)) + (1 : Int32)) + (1 : Int32)) + (1 : Int32))) (lv' := [(1, .int ((((((0 : Int32) + (1 : Int32)) + (1 : Int32)) + (1 : Int32)) + (1 : Int32)) + (1 : Int32))), (0, .ref (e_q E 30))]) 0 dX7_digest_279 rfl rfl hn1 rfl ?_
                                    refine at_goto C 263 dX7_digest_282 (by decide) ?_
                                    refine at_iload_n C 0 dX7_digest_263 rfl ?_
                                    refine at_bipush C (16 : Int32) dX7_digest_264 (by decide) ?_
                                    refine at_icmp_ge C 285 dX7_digest_266 (by decide) (fun c1336 => absurd c1336 (iv_xle (iv_c (c := 16) (x := (16 : Int32)) (by decide)) (iv_add (iv_add (iv_add (iv_add (iv_add (iv_c (c := 0) (x := (0 : Int32)) (by decide)) (iv_c (c := 1) (x := (1 : Int32)) (by decide)) (by decide) (by decide)) (iv_c (c := 1) (x := (1 : Int32)) (by decide)) (by decide) (by decide)) (iv_c (c := 1) (x := (1 : Int32)) (by decide)) (by decide) (by decide)) (iv_c (c := 1) (x := (1 : Int32)) (by decide)) (by decide) (by decide)) (iv_c (c := 1) (x := (1 : Int32)) (by decide)) (by decide) (by decide)) (by decide))) (fun c1336 => ?_)
                                    refine at_aload_n C 1 dX7_digest_269 rfl ?_
                                    refine at_aload_n C 1 dX7_digest_270 rfl ?_
                                    refine gf_X7_84 C dX7_digest_271 ?_
                                    refine at_iload_n C 0 dX7_digest_274 rfl ?_
                                    refine at_iald C (c := 51) rfl (iv_in (n := 16) (iv_add (iv_add (iv_add (iv_add (iv_add (iv_c (c := 0) (x := (0 : Int32)) (by decide)) (iv_c (c := 1) (x := (1 : Int32)) (by decide)) (by decide) (by decide)) (iv_c (c := 1) (x := (1 : Int32)) (by decide)) (by decide) (by decide)) (iv_c (c := 1) (x := (1 : Int32)) (by decide)) (by decide) (by decide)) (iv_c (c := 1) (x := (1 : Int32)) (by decide)) (by decide) (by decide)) (iv_c (c := 1) (x := (1 : Int32)) (by decide)) (by decide) (by decide)) (by decide) (by decide)) dX7_digest_275 ?_
                                    show AT E 276 [(1, .int ((((((0 : Int32) + (1 : Int32)) + (1 : Int32)) + (1 : Int32)) + (1 : Int32)) + (1 : Int32))), (0, .ref (e_q E 30))] [.int (ac_ga σ 51 (((((((0 : Int32) + (1 : Int32)) + (1 : Int32)) + (1 : Int32)) + (1 : Int32)) + (1 : Int32))).toNatClampNeg), .ref (e_q E 30)] (ac_sl σ lw1333)
                                    refine at_Vv C (As := [.int (ac_ga σ 51 (((((((0 : Int32) + (1 : Int32)) + (1 : Int32)) + (1 : Int32)) + (1 : Int32)) + (1 : Int32))).toNatClampNeg)]) (st := []) (b := 30) (ci := 7) (cz_X7_add (ac_sl σ lw1333) (ac_ga σ 51 (((((((0 : Int32) + (1 : Int32)) + (1 : Int32)) + (1 : Int32)) + (1 : Int32)) + (1 : Int32))).toNatClampNeg) hJ1335) mb_X7_add ml_X7_244 rfl rfl rfl (by decide) rfl (Nat.le_of_ble_eq_true rfl) dX7_digest_276 ?_
                                    rintro _ ⟨rfl, hJ1337⟩
                                    · obtain ⟨lw1338, hl1339⟩ : ∃ l : Int64, l = (((31 : Int64) * lw1333) + ((ac_ga σ 51 (((((((0 : Int32) + (1 : Int32)) + (1 : Int32)) + (1 : Int32)) + (1 : Int32)) + (1 : Int32))).toNatClampNeg)).toInt64) := ⟨_, rfl⟩
                                      show AT E 279 [(1, .int ((((((0 : Int32) + (1 : Int32)) + (1 : Int32)) + (1 : Int32)) + (1 : Int32)) + (1 : Int32))), (0, .ref (e_q E 30))] [] (ac_sl σ (((31 : Int64) * lw1333) + ((ac_ga σ 51 (((((((0 : Int32) + (1 : Int32)) + (1 : Int32)) + (1 : Int32)) + (1 : Int32)) + (1 : Int32))).toNatClampNeg)).toInt64))
                                      rw [← hl1339]
                                      have hJ1340 : Inv (ac_sl σ lw1338) := ⟨hJ1337.1, hJ1337.2⟩
                                      refine at_iinc C (v := (((((((0 : Int32) + (1 : Int32)) + (1 : Int32)) + (1 : Int32)) + (1 : Int32)) + (1 : Int32)) + (1 : Int32))) (lv' := [(1, .int (((((((0 : Int32) + (1 : Int32)) + (1 : Int32)) + (1 : Int32)) + (1 : Int32)) + (1 : Int32)) + (1 : Int32))), (0, .ref (e_q E 30))]) 0 dX7_digest_279 rfl rfl hn1 rfl ?_
                                      refine at_goto C 263 dX7_digest_282 (by decide) ?_
                                      refine at_iload_n C 0 dX7_digest_263 rfl ?_
                                      refine at_bipush C (16 : Int32) dX7_digest_264 (by decide) ?_
                                      refine at_icmp_ge C 285 dX7_digest_266 (by decide) (fun c1341 => absurd c1341 (iv_xle (iv_c (c := 16) (x := (16 : Int32)) (by decide)) (iv_add (iv_add (iv_add (iv_add (iv_add (iv_add (iv_c (c := 0) (x := (0 : Int32)) (by decide)) (iv_c (c := 1) (x := (1 : Int32)) (by decide)) (by decide) (by decide)) (iv_c (c := 1) (x := (1 : Int32)) (by decide)) (by decide) (by decide)) (iv_c (c := 1) (x := (1 : Int32)) (by decide)) (by decide) (by decide)) (iv_c (c := 1) (x := (1 : Int32)) (by decide)) (by decide) (by decide)) (iv_c (c := 1) (x := (1 : Int32)) (by decide)) (by decide) (by decide)) (iv_c (c := 1) (x := (1 : Int32)) (by decide)) (by decide) (by decide)) (by decide))) (fun c1341 => ?_)
                                      refine at_aload_n C 1 dX7_digest_269 rfl ?_
                                      refine at_aload_n C 1 dX7_digest_270 rfl ?_
                                      refine gf_X7_84 C dX7_digest_271 ?_
                                      refine at_iload_n C 0 dX7_digest_274 rfl ?_
                                      refine at_iald C (c := 51) rfl (iv_in (n := 16) (iv_add (iv_add (iv_add (iv_add (iv_add (iv_add (iv_c (c := 0) (x := (0 : Int32)) (by decide)) (iv_c (c := 1) (x := (1 : Int32)) (by decide)) (by decide) (by decide)) (iv_c (c := 1) (x := (1 : Int32)) (by decide)) (by decide) (by decide)) (iv_c (c := 1) (x := (1 : Int32)) (by decide)) (by decide) (by decide)) (iv_c (c := 1) (x := (1 : Int32)) (by decide)) (by decide) (by decide)) (iv_c (c := 1) (x := (1 : Int32)) (by decide)) (by decide) (by decide)) (iv_c (c := 1) (x := (1 : Int32)) (by decide)) (by decide) (by decide)) (by decide) (by decide)) dX7_digest_275 ?_
                                      show AT E 276 [(1, .int (((((((0 : Int32) + (1 : Int32)) + (1 : Int32)) + (1 : Int32)) + (1 : Int32)) + (1 : Int32)) + (1 : Int32))), (0, .ref (e_q E 30))] [.int (ac_ga σ 51 ((((((((0 : Int32) + (1 : Int32)) + (1 : Int32)) + (1 : Int32)) + (1 : Int32)) + (1 : Int32)) + (1 : Int32))).toNatClampNeg), .ref (e_q E 30)] (ac_sl σ lw1338)
                                      refine at_Vv C (As := [.int (ac_ga σ 51 ((((((((0 : Int32) + (1 : Int32)) + (1 : Int32)) + (1 : Int32)) + (1 : Int32)) + (1 : Int32)) + (1 : Int32))).toNatClampNeg)]) (st := []) (b := 30) (ci := 7) (cz_X7_add (ac_sl σ lw1338) (ac_ga σ 51 ((((((((0 : Int32) + (1 : Int32)) + (1 : Int32)) + (1 : Int32)) + (1 : Int32)) + (1 : Int32)) + (1 : Int32))).toNatClampNeg) hJ1340) mb_X7_add ml_X7_244 rfl rfl rfl (by decide) rfl (Nat.le_of_ble_eq_true rfl) dX7_digest_276 ?_
                                      rintro _ ⟨rfl, hJ1342⟩
                                      · obtain ⟨lw1343, hl1344⟩ : ∃ l : Int64, l = (((31 : Int64) * lw1338) + ((ac_ga σ 51 ((((((((0 : Int32) + (1 : Int32)) + (1 : Int32)) + (1 : Int32)) + (1 : Int32)) + (1 : Int32)) + (1 : Int32))).toNatClampNeg)).toInt64) := ⟨_, rfl⟩
                                        show AT E 279 [(1, .int (((((((0 : Int32) + (1 : Int32)) + (1 : Int32)) + (1 : Int32)) + (1 : Int32)) + (1 : Int32)) + (1 : Int32))), (0, .ref (e_q E 30))] [] (ac_sl σ (((31 : Int64) * lw1338) + ((ac_ga σ 51 ((((((((0 : Int32) + (1 : Int32)) + (1 : Int32)) + (1 : Int32)) + (1 : Int32)) + (1 : Int32)) + (1 : Int32))).toNatClampNeg)).toInt64))
                                        rw [← hl1344]
                                        have hJ1345 : Inv (ac_sl σ lw1343) := ⟨hJ1342.1, hJ1342.2⟩
                                        refine at_iinc C (v := ((((((((0 : Int32) + (1 : Int32)) + (1 : Int32)) + (1 : Int32)) + (1 : Int32)) + (1 : Int32)) + (1 : Int32)) + (1 : Int32))) (lv' := [(1, .int ((((((((0 : Int32) + (1 : Int32)) + (1 : Int32)) + (1 : Int32)) + (1 : Int32)) + (1 : Int32)) + (1 : Int32)) + (1 : Int32))), (0, .ref (e_q E 30))]) 0 dX7_digest_279 rfl rfl hn1 rfl ?_
                                        refine at_goto C 263 dX7_digest_282 (by decide) ?_
                                        refine at_iload_n C 0 dX7_digest_263 rfl ?_
                                        refine at_bipush C (16 : Int32) dX7_digest_264 (by decide) ?_
                                        refine at_icmp_ge C 285 dX7_digest_266 (by decide) (fun c1346 => absurd c1346 (iv_xle (iv_c (c := 16) (x := (16 : Int32)) (by decide)) (iv_add (iv_add (iv_add (iv_add (iv_add (iv_add (iv_add (iv_c (c := 0) (x := (0 : Int32)) (by decide)) (iv_c (c := 1) (x := (1 : Int32)) (by decide)) (by decide) (by decide)) (iv_c (c := 1) (x := (1 : Int32)) (by decide)) (by decide) (by decide)) (iv_c (c := 1) (x := (1 : Int32)) (by decide)) (by decide) (by decide)) (iv_c (c := 1) (x := (1 : Int32)) (by decide)) (by decide) (by decide)) (iv_c (c := 1) (x := (1 : Int32)) (by decide)) (by decide) (by decide)) (iv_c (c := 1) (x := (1 : Int32)) (by decide)) (by decide) (by decide)) (iv_c (c := 1) (x := (1 : Int32)) (by decide)) (by decide) (by decide)) (by decide))) (fun c1346 => ?_)
                                        refine at_aload_n C 1 dX7_digest_269 rfl ?_
                                        refine at_aload_n C 1 dX7_digest_270 rfl ?_
                                        refine gf_X7_84 C dX7_digest_271 ?_
                                        refine at_iload_n C 0 dX7_digest_274 rfl ?_
                                        refine at_iald C (c := 51) rfl (iv_in (n := 16) (iv_add (iv_add (iv_add (iv_add (iv_add (iv_add (iv_add (iv_c (c := 0) (x := (0 : Int32)) (by decide)) (iv_c (c := 1) (x := (1 : Int32)) (by decide)) (by decide) (by decide)) (iv_c (c := 1) (x := (1 : Int32)) (by decide)) (by decide) (by decide)) (iv_c (c := 1) (x := (1 : Int32)) (by decide)) (by decide) (by decide)) (iv_c (c := 1) (x := (1 : Int32)) (by decide)) (by decide) (by decide)) (iv_c (c := 1) (x := (1 : Int32)) (by decide)) (by decide) (by decide)) (iv_c (c := 1) (x := (1 : Int32)) (by decide)) (by decide) (by decide)) (iv_c (c := 1) (x := (1 : Int32)) (by decide)) (by decide) (by decide)) (by decide) (by decide)) dX7_digest_275 ?_
                                        show AT E 276 [(1, .int ((((((((0 : Int32) + (1 : Int32)) + (1 : Int32)) + (1 : Int32)) + (1 : Int32)) + (1 : Int32)) + (1 : Int32)) + (1 : Int32))), (0, .ref (e_q E 30))] [.int (ac_ga σ 51 (((((((((0 : Int32) + (1 : Int32)) + (1 : Int32)) + (1 : Int32)) + (1 : Int32)) + (1 : Int32)) + (1 : Int32)) + (1 : Int32))).toNatClampNeg), .ref (e_q E 30)] (ac_sl σ lw1343)
                                        refine at_Vv C (As := [.int (ac_ga σ 51 (((((((((0 : Int32) + (1 : Int32)) + (1 : Int32)) + (1 : Int32)) + (1 : Int32)) + (1 : Int32)) + (1 : Int32)) + (1 : Int32))).toNatClampNeg)]) (st := []) (b := 30) (ci := 7) (cz_X7_add (ac_sl σ lw1343) (ac_ga σ 51 (((((((((0 : Int32) + (1 : Int32)) + (1 : Int32)) + (1 : Int32)) + (1 : Int32)) + (1 : Int32)) + (1 : Int32)) + (1 : Int32))).toNatClampNeg) hJ1345) mb_X7_add ml_X7_244 rfl rfl rfl (by decide) rfl (Nat.le_of_ble_eq_true rfl) dX7_digest_276 ?_
                                        rintro _ ⟨rfl, hJ1347⟩
                                        · obtain ⟨lw1348, hl1349⟩ : ∃ l : Int64, l = (((31 : Int64) * lw1343) + ((ac_ga σ 51 (((((((((0 : Int32) + (1 : Int32)) + (1 : Int32)) + (1 : Int32)) + (1 : Int32)) + (1 : Int32)) + (1 : Int32)) + (1 : Int32))).toNatClampNeg)).toInt64) := ⟨_, rfl⟩
                                          show AT E 279 [(1, .int ((((((((0 : Int32) + (1 : Int32)) + (1 : Int32)) + (1 : Int32)) + (1 : Int32)) + (1 : Int32)) + (1 : Int32)) + (1 : Int32))), (0, .ref (e_q E 30))] [] (ac_sl σ (((31 : Int64) * lw1343) + ((ac_ga σ 51 (((((((((0 : Int32) + (1 : Int32)) + (1 : Int32)) + (1 : Int32)) + (1 : Int32)) + (1 : Int32)) + (1 : Int32)) + (1 : Int32))).toNatClampNeg)).toInt64))
                                          rw [← hl1349]
                                          have hJ1350 : Inv (ac_sl σ lw1348) := ⟨hJ1347.1, hJ1347.2⟩
                                          refine at_iinc C (v := (((((((((0 : Int32) + (1 : Int32)) + (1 : Int32)) + (1 : Int32)) + (1 : Int32)) + (1 : Int32)) + (1 : Int32)) + (1 : Int32)) + (1 : Int32))) (lv' := [(1, .int (((((((((0 : Int32) + (1 : Int32)) + (1 : Int32)) + (1 : Int32)) + (1 : Int32)) + (1 : Int32)) + (1 : Int32)) + (1 : Int32)) + (1 : Int32))), (0, .ref (e_q E 30))]) 0 dX7_digest_279 rfl rfl hn1 rfl ?_
                                          refine at_goto C 263 dX7_digest_282 (by decide) ?_
                                          refine at_iload_n C 0 dX7_digest_263 rfl ?_
                                          refine at_bipush C (16 : Int32) dX7_digest_264 (by decide) ?_
                                          refine at_icmp_ge C 285 dX7_digest_266 (by decide) (fun c1351 => absurd c1351 (iv_xle (iv_c (c := 16) (x := (16 : Int32)) (by decide)) (iv_add (iv_add (iv_add (iv_add (iv_add (iv_add (iv_add (iv_add (iv_c (c := 0) (x := (0 : Int32)) (by decide)) (iv_c (c := 1) (x := (1 : Int32)) (by decide)) (by decide) (by decide)) (iv_c (c := 1) (x := (1 : Int32)) (by decide)) (by decide) (by decide)) (iv_c (c := 1) (x := (1 : Int32)) (by decide)) (by decide) (by decide)) (iv_c (c := 1) (x := (1 : Int32)) (by decide)) (by decide) (by decide)) (iv_c (c := 1) (x := (1 : Int32)) (by decide)) (by decide) (by decide)) (iv_c (c := 1) (x := (1 : Int32)) (by decide)) (by decide) (by decide)) (iv_c (c := 1) (x := (1 : Int32)) (by decide)) (by decide) (by decide)) (iv_c (c := 1) (x := (1 : Int32)) (by decide)) (by decide) (by decide)) (by decide))) (fun c1351 => ?_)
                                          refine at_aload_n C 1 dX7_digest_269 rfl ?_
                                          refine at_aload_n C 1 dX7_digest_270 rfl ?_
                                          refine gf_X7_84 C dX7_digest_271 ?_
                                          refine at_iload_n C 0 dX7_digest_274 rfl ?_
                                          refine at_iald C (c := 51) rfl (iv_in (n := 16) (iv_add (iv_add (iv_add (iv_add (iv_add (iv_add (iv_add (iv_add (iv_c (c := 0) (x := (0 : Int32)) (by decide)) (iv_c (c := 1) (x := (1 : Int32)) (by decide)) (by decide) (by decide)) (iv_c (c := 1) (x := (1 : Int32)) (by decide)) (by decide) (by decide)) (iv_c (c := 1) (x := (1 : Int32)) (by decide)) (by decide) (by decide)) (iv_c (c := 1) (x := (1 : Int32)) (by decide)) (by decide) (by decide)) (iv_c (c := 1) (x := (1 : Int32)) (by decide)) (by decide) (by decide)) (iv_c (c := 1) (x := (1 : Int32)) (by decide)) (by decide) (by decide)) (iv_c (c := 1) (x := (1 : Int32)) (by decide)) (by decide) (by decide)) (iv_c (c := 1) (x := (1 : Int32)) (by decide)) (by decide) (by decide)) (by decide) (by decide)) dX7_digest_275 ?_
                                          show AT E 276 [(1, .int (((((((((0 : Int32) + (1 : Int32)) + (1 : Int32)) + (1 : Int32)) + (1 : Int32)) + (1 : Int32)) + (1 : Int32)) + (1 : Int32)) + (1 : Int32))), (0, .ref (e_q E 30))] [.int (ac_ga σ 51 ((((((((((0 : Int32) + (1 : Int32)) + (1 : Int32)) + (1 : Int32)) + (1 : Int32)) + (1 : Int32)) + (1 : Int32)) + (1 : Int32)) + (1 : Int32))).toNatClampNeg), .ref (e_q E 30)] (ac_sl σ lw1348)
                                          refine at_Vv C (As := [.int (ac_ga σ 51 ((((((((((0 : Int32) + (1 : Int32)) + (1 : Int32)) + (1 : Int32)) + (1 : Int32)) + (1 : Int32)) + (1 : Int32)) + (1 : Int32)) + (1 : Int32))).toNatClampNeg)]) (st := []) (b := 30) (ci := 7) (cz_X7_add (ac_sl σ lw1348) (ac_ga σ 51 ((((((((((0 : Int32) + (1 : Int32)) + (1 : Int32)) + (1 : Int32)) + (1 : Int32)) + (1 : Int32)) + (1 : Int32)) + (1 : Int32)) + (1 : Int32))).toNatClampNeg) hJ1350) mb_X7_add ml_X7_244 rfl rfl rfl (by decide) rfl (Nat.le_of_ble_eq_true rfl) dX7_digest_276 ?_
                                          rintro _ ⟨rfl, hJ1352⟩
                                          · obtain ⟨lw1353, hl1354⟩ : ∃ l : Int64, l = (((31 : Int64) * lw1348) + ((ac_ga σ 51 ((((((((((0 : Int32) + (1 : Int32)) + (1 : Int32)) + (1 : Int32)) + (1 : Int32)) + (1 : Int32)) + (1 : Int32)) + (1 : Int32)) + (1 : Int32))).toNatClampNeg)).toInt64) := ⟨_, rfl⟩
                                            show AT E 279 [(1, .int (((((((((0 : Int32) + (1 : Int32)) + (1 : Int32)) + (1 : Int32)) + (1 : Int32)) + (1 : Int32)) + (1 : Int32)) + (1 : Int32)) + (1 : Int32))), (0, .ref (e_q E 30))] [] (ac_sl σ (((31 : Int64) * lw1348) + ((ac_ga σ 51 ((((((((((0 : Int32) + (1 : Int32)) + (1 : Int32)) + (1 : Int32)) + (1 : Int32)) + (1 : Int32)) + (1 : Int32)) + (1 : Int32)) + (1 : Int32))).toNatClampNeg)).toInt64))
                                            rw [← hl1354]
                                            have hJ1355 : Inv (ac_sl σ lw1353) := ⟨hJ1352.1, hJ1352.2⟩
                                            refine at_iinc C (v := ((((((((((0 : Int32) + (1 : Int32)) + (1 : Int32)) + (1 : Int32)) + (1 : Int32)) + (1 : Int32)) + (1 : Int32)) + (1 : Int32)) + (1 : Int32)) + (1 : Int32))) (lv' := [(1, .int ((((((((((0 : Int32) + (1 : Int32)) + (1 : Int32)) + (1 : Int32)) + (1 : Int32)) + (1 : Int32)) + (1 : Int32)) + (1 : Int32)) + (1 : Int32)) + (1 : Int32))), (0, .ref (e_q E 30))]) 0 dX7_digest_279 rfl rfl hn1 rfl ?_
                                            refine at_goto C 263 dX7_digest_282 (by decide) ?_
                                            refine at_iload_n C 0 dX7_digest_263 rfl ?_
                                            refine at_bipush C (16 : Int32) dX7_digest_264 (by decide) ?_
                                            refine at_icmp_ge C 285 dX7_digest_266 (by decide) (fun c1356 => absurd c1356 (iv_xle (iv_c (c := 16) (x := (16 : Int32)) (by decide)) (iv_add (iv_add (iv_add (iv_add (iv_add (iv_add (iv_add (iv_add (iv_add (iv_c (c := 0) (x := (0 : Int32)) (by decide)) (iv_c (c := 1) (x := (1 : Int32)) (by decide)) (by decide) (by decide)) (iv_c (c := 1) (x := (1 : Int32)) (by decide)) (by decide) (by decide)) (iv_c (c := 1) (x := (1 : Int32)) (by decide)) (by decide) (by decide)) (iv_c (c := 1) (x := (1 : Int32)) (by decide)) (by decide) (by decide)) (iv_c (c := 1) (x := (1 : Int32)) (by decide)) (by decide) (by decide)) (iv_c (c := 1) (x := (1 : Int32)) (by decide)) (by decide) (by decide)) (iv_c (c := 1) (x := (1 : Int32)) (by decide)) (by decide) (by decide)) (iv_c (c := 1) (x := (1 : Int32)) (by decide)) (by decide) (by decide)) (iv_c (c := 1) (x := (1 : Int32)) (by decide)) (by decide) (by decide)) (by decide))) (fun c1356 => ?_)
                                            refine at_aload_n C 1 dX7_digest_269 rfl ?_
                                            refine at_aload_n C 1 dX7_digest_270 rfl ?_
                                            refine gf_X7_84 C dX7_digest_271 ?_
                                            refine at_iload_n C 0 dX7_digest_274 rfl ?_
                                            refine at_iald C (c := 51) rfl (iv_in (n := 16) (iv_add (iv_add (iv_add (iv_add (iv_add (iv_add (iv_add (iv_add (iv_add (iv_c (c := 0) (x := (0 : Int32)) (by decide)) (iv_c (c := 1) (x := (1 : Int32)) (by decide)) (by decide) (by decide)) (iv_c (c := 1) (x := (1 : Int32)) (by decide)) (by decide) (by decide)) (iv_c (c := 1) (x := (1 : Int32)) (by decide)) (by decide) (by decide)) (iv_c (c := 1) (x := (1 : Int32)) (by decide)) (by decide) (by decide)) (iv_c (c := 1) (x := (1 : Int32)) (by decide)) (by decide) (by decide)) (iv_c (c := 1) (x := (1 : Int32)) (by decide)) (by decide) (by decide)) (iv_c (c := 1) (x := (1 : Int32)) (by decide)) (by decide) (by decide)) (iv_c (c := 1) (x := (1 : Int32)) (by decide)) (by decide) (by decide)) (iv_c (c := 1) (x := (1 : Int32)) (by decide)) (by decide) (by decide)) (by decide) (by decide)) dX7_digest_275 ?_
                                            show AT E 276 [(1, .int ((((((((((0 : Int32) + (1 : Int32)) + (1 : Int32)) + (1 : Int32)) + (1 : Int32)) + (1 : Int32)) + (1 : Int32)) + (1 : Int32)) + (1 : Int32)) + (1 : Int32))), (0, .ref (e_q E 30))] [.int (ac_ga σ 51 (((((((((((0 : Int32) + (1 : Int32)) + (1 : Int32)) + (1 : Int32)) + (1 : Int32)) + (1 : Int32)) + (1 : Int32)) + (1 : Int32)) + (1 : Int32)) + (1 : Int32))).toNatClampNeg), .ref (e_q E 30)] (ac_sl σ lw1353)
                                            refine at_Vv C (As := [.int (ac_ga σ 51 (((((((((((0 : Int32) + (1 : Int32)) + (1 : Int32)) + (1 : Int32)) + (1 : Int32)) + (1 : Int32)) + (1 : Int32)) + (1 : Int32)) + (1 : Int32)) + (1 : Int32))).toNatClampNeg)]) (st := []) (b := 30) (ci := 7) (cz_X7_add (ac_sl σ lw1353) (ac_ga σ 51 (((((((((((0 : Int32) + (1 : Int32)) + (1 : Int32)) + (1 : Int32)) + (1 : Int32)) + (1 : Int32)) + (1 : Int32)) + (1 : Int32)) + (1 : Int32)) + (1 : Int32))).toNatClampNeg) hJ1355) mb_X7_add ml_X7_244 rfl rfl rfl (by decide) rfl (Nat.le_of_ble_eq_true rfl) dX7_digest_276 ?_
                                            rintro _ ⟨rfl, hJ1357⟩
                                            · obtain ⟨lw1358, hl1359⟩ : ∃ l : Int64, l = (((31 : Int64) * lw1353) + ((ac_ga σ 51 (((((((((((0 : Int32) + (1 : Int32)) + (1 : Int32)) + (1 : Int32)) + (1 : Int32)) + (1 : Int32)) + (1 : Int32)) + (1 : Int32)) + (1 : Int32)) + (1 : Int32))).toNatClampNeg)).toInt64) := ⟨_, rfl⟩
                                              show AT E 279 [(1, .int ((((((((((0 : Int32) + (1 : Int32)) + (1 : Int32)) + (1 : Int32)) + (1 : Int32)) + (1 : Int32)) + (1 : Int32)) + (1 : Int32)) + (1 : Int32)) + (1 : Int32))), (0, .ref (e_q E 30))] [] (ac_sl σ (((31 : Int64) * lw1353) + ((ac_ga σ 51 (((((((((((0 : Int32) + (1 : Int32)) + (1 : Int32)) + (1 : Int32)) + (1 : Int32)) + (1 : Int32)) + (1 : Int32)) + (1 : Int32)) + (1 : Int32)) + (1 : Int32))).toNatClampNeg)).toInt64))
                                              rw [← hl1359]
                                              have hJ1360 : Inv (ac_sl σ lw1358) := ⟨hJ1357.1, hJ1357.2⟩
                                              refine at_iinc C (v := (((((((((((0 : Int32) + (1 : Int32)) + (1 : Int32)) + (1 : Int32)) + (1 : Int32)) + (1 : Int32)) + (1 : Int32)) + (1 : Int32)) + (1 : Int32)) + (1 : Int32)) + (1 : Int32))) (lv' := [(1, .int (((((((((((0 : Int32) + (1 : Int32)) + (1 : Int32)) + (1 : Int32)) + (1 : Int32)) + (1 : Int32)) + (1 : Int32)) + (1 : Int32)) + (1 : Int32)) + (1 : Int32)) + (1 : Int32))), (0, .ref (e_q E 30))]) 0 dX7_digest_279 rfl rfl hn1 rfl ?_
                                              refine at_goto C 263 dX7_digest_282 (by decide) ?_
                                              refine at_iload_n C 0 dX7_digest_263 rfl ?_
                                              refine at_bipush C (16 : Int32) dX7_digest_264 (by decide) ?_
                                              refine at_icmp_ge C 285 dX7_digest_266 (by decide) (fun c1361 => absurd c1361 (iv_xle (iv_c (c := 16) (x := (16 : Int32)) (by decide)) (iv_add (iv_add (iv_add (iv_add (iv_add (iv_add (iv_add (iv_add (iv_add (iv_add (iv_c (c := 0) (x := (0 : Int32)) (by decide)) (iv_c (c := 1) (x := (1 : Int32)) (by decide)) (by decide) (by decide)) (iv_c (c := 1) (x := (1 : Int32)) (by decide)) (by decide) (by decide)) (iv_c (c := 1) (x := (1 : Int32)) (by decide)) (by decide) (by decide)) (iv_c (c := 1) (x := (1 : Int32)) (by decide)) (by decide) (by decide)) (iv_c (c := 1) (x := (1 : Int32)) (by decide)) (by decide) (by decide)) (iv_c (c := 1) (x := (1 : Int32)) (by decide)) (by decide) (by decide)) (iv_c (c := 1) (x := (1 : Int32)) (by decide)) (by decide) (by decide)) (iv_c (c := 1) (x := (1 : Int32)) (by decide)) (by decide) (by decide)) (iv_c (c := 1) (x := (1 : Int32)) (by decide)) (by decide) (by decide)) (iv_c (c := 1) (x := (1 : Int32)) (by decide)) (by decide) (by decide)) (by decide))) (fun c1361 => ?_)
                                              refine at_aload_n C 1 dX7_digest_269 rfl ?_
                                              refine at_aload_n C 1 dX7_digest_270 rfl ?_
                                              refine gf_X7_84 C dX7_digest_271 ?_
                                              refine at_iload_n C 0 dX7_digest_274 rfl ?_
                                              refine at_iald C (c := 51) rfl (iv_in (n := 16) (iv_add (iv_add (iv_add (iv_add (iv_add (iv_add (iv_add (iv_add (iv_add (iv_add (iv_c (c := 0) (x := (0 : Int32)) (by decide)) (iv_c (c := 1) (x := (1 : Int32)) (by decide)) (by decide) (by decide)) (iv_c (c := 1) (x := (1 : Int32)) (by decide)) (by decide) (by decide)) (iv_c (c := 1) (x := (1 : Int32)) (by decide)) (by decide) (by decide)) (iv_c (c := 1) (x := (1 : Int32)) (by decide)) (by decide) (by decide)) (iv_c (c := 1) (x := (1 : Int32)) (by decide)) (by decide) (by decide)) (iv_c (c := 1) (x := (1 : Int32)) (by decide)) (by decide) (by decide)) (iv_c (c := 1) (x := (1 : Int32)) (by decide)) (by decide) (by decide)) (iv_c (c := 1) (x := (1 : Int32)) (by decide)) (by decide) (by decide)) (iv_c (c := 1) (x := (1 : Int32)) (by decide)) (by decide) (by decide)) (iv_c (c := 1) (x := (1 : Int32)) (by decide)) (by decide) (by decide)) (by decide) (by decide)) dX7_digest_275 ?_
                                              show AT E 276 [(1, .int (((((((((((0 : Int32) + (1 : Int32)) + (1 : Int32)) + (1 : Int32)) + (1 : Int32)) + (1 : Int32)) + (1 : Int32)) + (1 : Int32)) + (1 : Int32)) + (1 : Int32)) + (1 : Int32))), (0, .ref (e_q E 30))] [.int (ac_ga σ 51 ((((((((((((0 : Int32) + (1 : Int32)) + (1 : Int32)) + (1 : Int32)) + (1 : Int32)) + (1 : Int32)) + (1 : Int32)) + (1 : Int32)) + (1 : Int32)) + (1 : Int32)) + (1 : Int32))).toNatClampNeg), .ref (e_q E 30)] (ac_sl σ lw1358)
                                              refine at_Vv C (As := [.int (ac_ga σ 51 ((((((((((((0 : Int32) + (1 : Int32)) + (1 : Int32)) + (1 : Int32)) + (1 : Int32)) + (1 : Int32)) + (1 : Int32)) + (1 : Int32)) + (1 : Int32)) + (1 : Int32)) + (1 : Int32))).toNatClampNeg)]) (st := []) (b := 30) (ci := 7) (cz_X7_add (ac_sl σ lw1358) (ac_ga σ 51 ((((((((((((0 : Int32) + (1 : Int32)) + (1 : Int32)) + (1 : Int32)) + (1 : Int32)) + (1 : Int32)) + (1 : Int32)) + (1 : Int32)) + (1 : Int32)) + (1 : Int32)) + (1 : Int32))).toNatClampNeg) hJ1360) mb_X7_add ml_X7_244 rfl rfl rfl (by decide) rfl (Nat.le_of_ble_eq_true rfl) dX7_digest_276 ?_
                                              rintro _ ⟨rfl, hJ1362⟩
                                              · obtain ⟨lw1363, hl1364⟩ : ∃ l : Int64, l = (((31 : Int64) * lw1358) + ((ac_ga σ 51 ((((((((((((0 : Int32) + (1 : Int32)) + (1 : Int32)) + (1 : Int32)) + (1 : Int32)) + (1 : Int32)) + (1 : Int32)) + (1 : Int32)) + (1 : Int32)) + (1 : Int32)) + (1 : Int32))).toNatClampNeg)).toInt64) := ⟨_, rfl⟩
                                                show AT E 279 [(1, .int (((((((((((0 : Int32) + (1 : Int32)) + (1 : Int32)) + (1 : Int32)) + (1 : Int32)) + (1 : Int32)) + (1 : Int32)) + (1 : Int32)) + (1 : Int32)) + (1 : Int32)) + (1 : Int32))), (0, .ref (e_q E 30))] [] (ac_sl σ (((31 : Int64) * lw1358) + ((ac_ga σ 51 ((((((((((((0 : Int32) + (1 : Int32)) + (1 : Int32)) + (1 : Int32)) + (1 : Int32)) + (1 : Int32)) + (1 : Int32)) + (1 : Int32)) + (1 : Int32)) + (1 : Int32)) + (1 : Int32))).toNatClampNeg)).toInt64))
                                                rw [← hl1364]
                                                have hJ1365 : Inv (ac_sl σ lw1363) := ⟨hJ1362.1, hJ1362.2⟩
                                                refine at_iinc C (v := ((((((((((((0 : Int32) + (1 : Int32)) + (1 : Int32)) + (1 : Int32)) + (1 : Int32)) + (1 : Int32)) + (1 : Int32)) + (1 : Int32)) + (1 : Int32)) + (1 : Int32)) + (1 : Int32)) + (1 : Int32))) (lv' := [(1, .int ((((((((((((0 : Int32) + (1 : Int32)) + (1 : Int32)) + (1 : Int32)) + (1 : Int32)) + (1 : Int32)) + (1 : Int32)) + (1 : Int32)) + (1 : Int32)) + (1 : Int32)) + (1 : Int32)) + (1 : Int32))), (0, .ref (e_q E 30))]) 0 dX7_digest_279 rfl rfl hn1 rfl ?_
                                                refine at_goto C 263 dX7_digest_282 (by decide) ?_
                                                refine at_iload_n C 0 dX7_digest_263 rfl ?_
                                                refine at_bipush C (16 : Int32) dX7_digest_264 (by decide) ?_
                                                refine at_icmp_ge C 285 dX7_digest_266 (by decide) (fun c1366 => absurd c1366 (iv_xle (iv_c (c := 16) (x := (16 : Int32)) (by decide)) (iv_add (iv_add (iv_add (iv_add (iv_add (iv_add (iv_add (iv_add (iv_add (iv_add (iv_add (iv_c (c := 0) (x := (0 : Int32)) (by decide)) (iv_c (c := 1) (x := (1 : Int32)) (by decide)) (by decide) (by decide)) (iv_c (c := 1) (x := (1 : Int32)) (by decide)) (by decide) (by decide)) (iv_c (c := 1) (x := (1 : Int32)) (by decide)) (by decide) (by decide)) (iv_c (c := 1) (x := (1 : Int32)) (by decide)) (by decide) (by decide)) (iv_c (c := 1) (x := (1 : Int32)) (by decide)) (by decide) (by decide)) (iv_c (c := 1) (x := (1 : Int32)) (by decide)) (by decide) (by decide)) (iv_c (c := 1) (x := (1 : Int32)) (by decide)) (by decide) (by decide)) (iv_c (c := 1) (x := (1 : Int32)) (by decide)) (by decide) (by decide)) (iv_c (c := 1) (x := (1 : Int32)) (by decide)) (by decide) (by decide)) (iv_c (c := 1) (x := (1 : Int32)) (by decide)) (by decide) (by decide)) (iv_c (c := 1) (x := (1 : Int32)) (by decide)) (by decide) (by decide)) (by decide))) (fun c1366 => ?_)
                                                refine at_aload_n C 1 dX7_digest_269 rfl ?_
                                                refine at_aload_n C 1 dX7_digest_270 rfl ?_
                                                refine gf_X7_84 C dX7_digest_271 ?_
                                                refine at_iload_n C 0 dX7_digest_274 rfl ?_
                                                refine at_iald C (c := 51) rfl (iv_in (n := 16) (iv_add (iv_add (iv_add (iv_add (iv_add (iv_add (iv_add (iv_add (iv_add (iv_add (iv_add (iv_c (c := 0) (x := (0 : Int32)) (by decide)) (iv_c (c := 1) (x := (1 : Int32)) (by decide)) (by decide) (by decide)) (iv_c (c := 1) (x := (1 : Int32)) (by decide)) (by decide) (by decide)) (iv_c (c := 1) (x := (1 : Int32)) (by decide)) (by decide) (by decide)) (iv_c (c := 1) (x := (1 : Int32)) (by decide)) (by decide) (by decide)) (iv_c (c := 1) (x := (1 : Int32)) (by decide)) (by decide) (by decide)) (iv_c (c := 1) (x := (1 : Int32)) (by decide)) (by decide) (by decide)) (iv_c (c := 1) (x := (1 : Int32)) (by decide)) (by decide) (by decide)) (iv_c (c := 1) (x := (1 : Int32)) (by decide)) (by decide) (by decide)) (iv_c (c := 1) (x := (1 : Int32)) (by decide)) (by decide) (by decide)) (iv_c (c := 1) (x := (1 : Int32)) (by decide)) (by decide) (by decide)) (iv_c (c := 1) (x := (1 : Int32)) (by decide)) (by decide) (by decide)) (by decide) (by decide)) dX7_digest_275 ?_
                                                show AT E 276 [(1, .int ((((((((((((0 : Int32) + (1 : Int32)) + (1 : Int32)) + (1 : Int32)) + (1 : Int32)) + (1 : Int32)) + (1 : Int32)) + (1 : Int32)) + (1 : Int32)) + (1 : Int32)) + (1 : Int32)) + (1 : Int32))), (0, .ref (e_q E 30))] [.int (ac_ga σ 51 (((((((((((((0 : Int32) + (1 : Int32)) + (1 : Int32)) + (1 : Int32)) + (1 : Int32)) + (1 : Int32)) + (1 : Int32)) + (1 : Int32)) + (1 : Int32)) + (1 : Int32)) + (1 : Int32)) + (1 : Int32))).toNatClampNeg), .ref (e_q E 30)] (ac_sl σ lw1363)
                                                refine at_Vv C (As := [.int (ac_ga σ 51 (((((((((((((0 : Int32) + (1 : Int32)) + (1 : Int32)) + (1 : Int32)) + (1 : Int32)) + (1 : Int32)) + (1 : Int32)) + (1 : Int32)) + (1 : Int32)) + (1 : Int32)) + (1 : Int32)) + (1 : Int32))).toNatClampNeg)]) (st := []) (b := 30) (ci := 7) (cz_X7_add (ac_sl σ lw1363) (ac_ga σ 51 (((((((((((((0 : Int32) + (1 : Int32)) + (1 : Int32)) + (1 : Int32)) + (1 : Int32)) + (1 : Int32)) + (1 : Int32)) + (1 : Int32)) + (1 : Int32)) + (1 : Int32)) + (1 : Int32)) + (1 : Int32))).toNatClampNeg) hJ1365) mb_X7_add ml_X7_244 rfl rfl rfl (by decide) rfl (Nat.le_of_ble_eq_true rfl) dX7_digest_276 ?_
                                                rintro _ ⟨rfl, hJ1367⟩
                                                · obtain ⟨lw1368, hl1369⟩ : ∃ l : Int64, l = (((31 : Int64) * lw1363) + ((ac_ga σ 51 (((((((((((((0 : Int32) + (1 : Int32)) + (1 : Int32)) + (1 : Int32)) + (1 : Int32)) + (1 : Int32)) + (1 : Int32)) + (1 : Int32)) + (1 : Int32)) + (1 : Int32)) + (1 : Int32)) + (1 : Int32))).toNatClampNeg)).toInt64) := ⟨_, rfl⟩
                                                  show AT E 279 [(1, .int ((((((((((((0 : Int32) + (1 : Int32)) + (1 : Int32)) + (1 : Int32)) + (1 : Int32)) + (1 : Int32)) + (1 : Int32)) + (1 : Int32)) + (1 : Int32)) + (1 : Int32)) + (1 : Int32)) + (1 : Int32))), (0, .ref (e_q E 30))] [] (ac_sl σ (((31 : Int64) * lw1363) + ((ac_ga σ 51 (((((((((((((0 : Int32) + (1 : Int32)) + (1 : Int32)) + (1 : Int32)) + (1 : Int32)) + (1 : Int32)) + (1 : Int32)) + (1 : Int32)) + (1 : Int32)) + (1 : Int32)) + (1 : Int32)) + (1 : Int32))).toNatClampNeg)).toInt64))
                                                  rw [← hl1369]
                                                  have hJ1370 : Inv (ac_sl σ lw1368) := ⟨hJ1367.1, hJ1367.2⟩
                                                  refine at_iinc C (v := (((((((((((((0 : Int32) + (1 : Int32)) + (1 : Int32)) + (1 : Int32)) + (1 : Int32)) + (1 : Int32)) + (1 : Int32)) + (1 : Int32)) + (1 : Int32)) + (1 : Int32)) + (1 : Int32)) + (1 : Int32)) + (1 : Int32))) (lv' := [(1, .int (((((((((((((0 : Int32) + (1 : Int32)) + (1 : Int32)) + (1 : Int32)) + (1 : Int32)) + (1 : Int32)) + (1 : Int32)) + (1 : Int32)) + (1 : Int32)) + (1 : Int32)) + (1 : Int32)) + (1 : Int32)) + (1 : Int32))), (0, .ref (e_q E 30))]) 0 dX7_digest_279 rfl rfl hn1 rfl ?_
                                                  refine at_goto C 263 dX7_digest_282 (by decide) ?_
                                                  refine at_iload_n C 0 dX7_digest_263 rfl ?_
                                                  refine at_bipush C (16 : Int32) dX7_digest_264 (by decide) ?_
                                                  refine at_icmp_ge C 285 dX7_digest_266 (by decide) (fun c1371 => absurd c1371 (iv_xle (iv_c (c := 16) (x := (16 : Int32)) (by decide)) (iv_add (iv_add (iv_add (iv_add (iv_add (iv_add (iv_add (iv_add (iv_add (iv_add (iv_add (iv_add (iv_c (c := 0) (x := (0 : Int32)) (by decide)) (iv_c (c := 1) (x := (1 : Int32)) (by decide)) (by decide) (by decide)) (iv_c (c := 1) (x := (1 : Int32)) (by decide)) (by decide) (by decide)) (iv_c (c := 1) (x := (1 : Int32)) (by decide)) (by decide) (by decide)) (iv_c (c := 1) (x := (1 : Int32)) (by decide)) (by decide) (by decide)) (iv_c (c := 1) (x := (1 : Int32)) (by decide)) (by decide) (by decide)) (iv_c (c := 1) (x := (1 : Int32)) (by decide)) (by decide) (by decide)) (iv_c (c := 1) (x := (1 : Int32)) (by decide)) (by decide) (by decide)) (iv_c (c := 1) (x := (1 : Int32)) (by decide)) (by decide) (by decide)) (iv_c (c := 1) (x := (1 : Int32)) (by decide)) (by decide) (by decide)) (iv_c (c := 1) (x := (1 : Int32)) (by decide)) (by decide) (by decide)) (iv_c (c := 1) (x := (1 : Int32)) (by decide)) (by decide) (by decide)) (iv_c (c := 1) (x := (1 : Int32)) (by decide)) (by decide) (by decide)) (by decide))) (fun c1371 => ?_)
                                                  refine at_aload_n C 1 dX7_digest_269 rfl ?_
                                                  refine at_aload_n C 1 dX7_digest_270 rfl ?_
                                                  refine gf_X7_84 C dX7_digest_271 ?_
                                                  refine at_iload_n C 0 dX7_digest_274 rfl ?_
                                                  refine at_iald C (c := 51) rfl (iv_in (n := 16) (iv_add (iv_add (iv_add (iv_add (iv_add (iv_add (iv_add (iv_add (iv_add (iv_add (iv_add (iv_add (iv_c (c := 0) (x := (0 : Int32)) (by decide)) (iv_c (c := 1) (x := (1 : Int32)) (by decide)) (by decide) (by decide)) (iv_c (c := 1) (x := (1 : Int32)) (by decide)) (by decide) (by decide)) (iv_c (c := 1) (x := (1 : Int32)) (by decide)) (by decide) (by decide)) (iv_c (c := 1) (x := (1 : Int32)) (by decide)) (by decide) (by decide)) (iv_c (c := 1) (x := (1 : Int32)) (by decide)) (by decide) (by decide)) (iv_c (c := 1) (x := (1 : Int32)) (by decide)) (by decide) (by decide)) (iv_c (c := 1) (x := (1 : Int32)) (by decide)) (by decide) (by decide)) (iv_c (c := 1) (x := (1 : Int32)) (by decide)) (by decide) (by decide)) (iv_c (c := 1) (x := (1 : Int32)) (by decide)) (by decide) (by decide)) (iv_c (c := 1) (x := (1 : Int32)) (by decide)) (by decide) (by decide)) (iv_c (c := 1) (x := (1 : Int32)) (by decide)) (by decide) (by decide)) (iv_c (c := 1) (x := (1 : Int32)) (by decide)) (by decide) (by decide)) (by decide) (by decide)) dX7_digest_275 ?_
                                                  show AT E 276 [(1, .int (((((((((((((0 : Int32) + (1 : Int32)) + (1 : Int32)) + (1 : Int32)) + (1 : Int32)) + (1 : Int32)) + (1 : Int32)) + (1 : Int32)) + (1 : Int32)) + (1 : Int32)) + (1 : Int32)) + (1 : Int32)) + (1 : Int32))), (0, .ref (e_q E 30))] [.int (ac_ga σ 51 ((((((((((((((0 : Int32) + (1 : Int32)) + (1 : Int32)) + (1 : Int32)) + (1 : Int32)) + (1 : Int32)) + (1 : Int32)) + (1 : Int32)) + (1 : Int32)) + (1 : Int32)) + (1 : Int32)) + (1 : Int32)) + (1 : Int32))).toNatClampNeg), .ref (e_q E 30)] (ac_sl σ lw1368)
                                                  refine at_Vv C (As := [.int (ac_ga σ 51 ((((((((((((((0 : Int32) + (1 : Int32)) + (1 : Int32)) + (1 : Int32)) + (1 : Int32)) + (1 : Int32)) + (1 : Int32)) + (1 : Int32)) + (1 : Int32)) + (1 : Int32)) + (1 : Int32)) + (1 : Int32)) + (1 : Int32))).toNatClampNeg)]) (st := []) (b := 30) (ci := 7) (cz_X7_add (ac_sl σ lw1368) (ac_ga σ 51 ((((((((((((((0 : Int32) + (1 : Int32)) + (1 : Int32)) + (1 : Int32)) + (1 : Int32)) + (1 : Int32)) + (1 : Int32)) + (1 : Int32)) + (1 : Int32)) + (1 : Int32)) + (1 : Int32)) + (1 : Int32)) + (1 : Int32))).toNatClampNeg) hJ1370) mb_X7_add ml_X7_244 rfl rfl rfl (by decide) rfl (Nat.le_of_ble_eq_true rfl) dX7_digest_276 ?_
                                                  rintro _ ⟨rfl, hJ1372⟩
                                                  · obtain ⟨lw1373, hl1374⟩ : ∃ l : Int64, l = (((31 : Int64) * lw1368) + ((ac_ga σ 51 ((((((((((((((0 : Int32) + (1 : Int32)) + (1 : Int32)) + (1 : Int32)) + (1 : Int32)) + (1 : Int32)) + (1 : Int32)) + (1 : Int32)) + (1 : Int32)) + (1 : Int32)) + (1 : Int32)) + (1 : Int32)) + (1 : Int32))).toNatClampNeg)).toInt64) := ⟨_, rfl⟩
                                                    show AT E 279 [(1, .int (((((((((((((0 : Int32) + (1 : Int32)) + (1 : Int32)) + (1 : Int32)) + (1 : Int32)) + (1 : Int32)) + (1 : Int32)) + (1 : Int32)) + (1 : Int32)) + (1 : Int32)) + (1 : Int32)) + (1 : Int32)) + (1 : Int32))), (0, .ref (e_q E 30))] [] (ac_sl σ (((31 : Int64) * lw1368) + ((ac_ga σ 51 ((((((((((((((0 : Int32) + (1 : Int32)) + (1 : Int32)) + (1 : Int32)) + (1 : Int32)) + (1 : Int32)) + (1 : Int32)) + (1 : Int32)) + (1 : Int32)) + (1 : Int32)) + (1 : Int32)) + (1 : Int32)) + (1 : Int32))).toNatClampNeg)).toInt64))
                                                    rw [← hl1374]
                                                    have hJ1375 : Inv (ac_sl σ lw1373) := ⟨hJ1372.1, hJ1372.2⟩
                                                    refine at_iinc C (v := ((((((((((((((0 : Int32) + (1 : Int32)) + (1 : Int32)) + (1 : Int32)) + (1 : Int32)) + (1 : Int32)) + (1 : Int32)) + (1 : Int32)) + (1 : Int32)) + (1 : Int32)) + (1 : Int32)) + (1 : Int32)) + (1 : Int32)) + (1 : Int32))) (lv' := [(1, .int ((((((((((((((0 : Int32) + (1 : Int32)) + (1 : Int32)) + (1 : Int32)) + (1 : Int32)) + (1 : Int32)) + (1 : Int32)) + (1 : Int32)) + (1 : Int32)) + (1 : Int32)) + (1 : Int32)) + (1 : Int32)) + (1 : Int32)) + (1 : Int32))), (0, .ref (e_q E 30))]) 0 dX7_digest_279 rfl rfl hn1 rfl ?_
                                                    refine at_goto C 263 dX7_digest_282 (by decide) ?_
                                                    refine at_iload_n C 0 dX7_digest_263 rfl ?_
                                                    refine at_bipush C (16 : Int32) dX7_digest_264 (by decide) ?_
                                                    refine at_icmp_ge C 285 dX7_digest_266 (by decide) (fun c1376 => absurd c1376 (iv_xle (iv_c (c := 16) (x := (16 : Int32)) (by decide)) (iv_add (iv_add (iv_add (iv_add (iv_add (iv_add (iv_add (iv_add (iv_add (iv_add (iv_add (iv_add (iv_add (iv_c (c := 0) (x := (0 : Int32)) (by decide)) (iv_c (c := 1) (x := (1 : Int32)) (by decide)) (by decide) (by decide)) (iv_c (c := 1) (x := (1 : Int32)) (by decide)) (by decide) (by decide)) (iv_c (c := 1) (x := (1 : Int32)) (by decide)) (by decide) (by decide)) (iv_c (c := 1) (x := (1 : Int32)) (by decide)) (by decide) (by decide)) (iv_c (c := 1) (x := (1 : Int32)) (by decide)) (by decide) (by decide)) (iv_c (c := 1) (x := (1 : Int32)) (by decide)) (by decide) (by decide)) (iv_c (c := 1) (x := (1 : Int32)) (by decide)) (by decide) (by decide)) (iv_c (c := 1) (x := (1 : Int32)) (by decide)) (by decide) (by decide)) (iv_c (c := 1) (x := (1 : Int32)) (by decide)) (by decide) (by decide)) (iv_c (c := 1) (x := (1 : Int32)) (by decide)) (by decide) (by decide)) (iv_c (c := 1) (x := (1 : Int32)) (by decide)) (by decide) (by decide)) (iv_c (c := 1) (x := (1 : Int32)) (by decide)) (by decide) (by decide)) (iv_c (c := 1) (x := (1 : Int32)) (by decide)) (by decide) (by decide)) (by decide))) (fun c1376 => ?_)
                                                    refine at_aload_n C 1 dX7_digest_269 rfl ?_
                                                    refine at_aload_n C 1 dX7_digest_270 rfl ?_
                                                    refine gf_X7_84 C dX7_digest_271 ?_
                                                    refine at_iload_n C 0 dX7_digest_274 rfl ?_
                                                    refine at_iald C (c := 51) rfl (iv_in (n := 16) (iv_add (iv_add (iv_add (iv_add (iv_add (iv_add (iv_add (iv_add (iv_add (iv_add (iv_add (iv_add (iv_add (iv_c (c := 0) (x := (0 : Int32)) (by decide)) (iv_c (c := 1) (x := (1 : Int32)) (by decide)) (by decide) (by decide)) (iv_c (c := 1) (x := (1 : Int32)) (by decide)) (by decide) (by decide)) (iv_c (c := 1) (x := (1 : Int32)) (by decide)) (by decide) (by decide)) (iv_c (c := 1) (x := (1 : Int32)) (by decide)) (by decide) (by decide)) (iv_c (c := 1) (x := (1 : Int32)) (by decide)) (by decide) (by decide)) (iv_c (c := 1) (x := (1 : Int32)) (by decide)) (by decide) (by decide)) (iv_c (c := 1) (x := (1 : Int32)) (by decide)) (by decide) (by decide)) (iv_c (c := 1) (x := (1 : Int32)) (by decide)) (by decide) (by decide)) (iv_c (c := 1) (x := (1 : Int32)) (by decide)) (by decide) (by decide)) (iv_c (c := 1) (x := (1 : Int32)) (by decide)) (by decide) (by decide)) (iv_c (c := 1) (x := (1 : Int32)) (by decide)) (by decide) (by decide)) (iv_c (c := 1) (x := (1 : Int32)) (by decide)) (by decide) (by decide)) (iv_c (c := 1) (x := (1 : Int32)) (by decide)) (by decide) (by decide)) (by decide) (by decide)) dX7_digest_275 ?_
                                                    show AT E 276 [(1, .int ((((((((((((((0 : Int32) + (1 : Int32)) + (1 : Int32)) + (1 : Int32)) + (1 : Int32)) + (1 : Int32)) + (1 : Int32)) + (1 : Int32)) + (1 : Int32)) + (1 : Int32)) + (1 : Int32)) + (1 : Int32)) + (1 : Int32)) + (1 : Int32))), (0, .ref (e_q E 30))] [.int (ac_ga σ 51 (((((((((((((((0 : Int32) + (1 : Int32)) + (1 : Int32)) + (1 : Int32)) + (1 : Int32)) + (1 : Int32)) + (1 : Int32)) + (1 : Int32)) + (1 : Int32)) + (1 : Int32)) + (1 : Int32)) + (1 : Int32)) + (1 : Int32)) + (1 : Int32))).toNatClampNeg), .ref (e_q E 30)] (ac_sl σ lw1373)
                                                    refine at_Vv C (As := [.int (ac_ga σ 51 (((((((((((((((0 : Int32) + (1 : Int32)) + (1 : Int32)) + (1 : Int32)) + (1 : Int32)) + (1 : Int32)) + (1 : Int32)) + (1 : Int32)) + (1 : Int32)) + (1 : Int32)) + (1 : Int32)) + (1 : Int32)) + (1 : Int32)) + (1 : Int32))).toNatClampNeg)]) (st := []) (b := 30) (ci := 7) (cz_X7_add (ac_sl σ lw1373) (ac_ga σ 51 (((((((((((((((0 : Int32) + (1 : Int32)) + (1 : Int32)) + (1 : Int32)) + (1 : Int32)) + (1 : Int32)) + (1 : Int32)) + (1 : Int32)) + (1 : Int32)) + (1 : Int32)) + (1 : Int32)) + (1 : Int32)) + (1 : Int32)) + (1 : Int32))).toNatClampNeg) hJ1375) mb_X7_add ml_X7_244 rfl rfl rfl (by decide) rfl (Nat.le_of_ble_eq_true rfl) dX7_digest_276 ?_
                                                    rintro _ ⟨rfl, hJ1377⟩
                                                    · obtain ⟨lw1378, hl1379⟩ : ∃ l : Int64, l = (((31 : Int64) * lw1373) + ((ac_ga σ 51 (((((((((((((((0 : Int32) + (1 : Int32)) + (1 : Int32)) + (1 : Int32)) + (1 : Int32)) + (1 : Int32)) + (1 : Int32)) + (1 : Int32)) + (1 : Int32)) + (1 : Int32)) + (1 : Int32)) + (1 : Int32)) + (1 : Int32)) + (1 : Int32))).toNatClampNeg)).toInt64) := ⟨_, rfl⟩
                                                      show AT E 279 [(1, .int ((((((((((((((0 : Int32) + (1 : Int32)) + (1 : Int32)) + (1 : Int32)) + (1 : Int32)) + (1 : Int32)) + (1 : Int32)) + (1 : Int32)) + (1 : Int32)) + (1 : Int32)) + (1 : Int32)) + (1 : Int32)) + (1 : Int32)) + (1 : Int32))), (0, .ref (e_q E 30))] [] (ac_sl σ (((31 : Int64) * lw1373) + ((ac_ga σ 51 (((((((((((((((0 : Int32) + (1 : Int32)) + (1 : Int32)) + (1 : Int32)) + (1 : Int32)) + (1 : Int32)) + (1 : Int32)) + (1 : Int32)) + (1 : Int32)) + (1 : Int32)) + (1 : Int32)) + (1 : Int32)) + (1 : Int32)) + (1 : Int32))).toNatClampNeg)).toInt64))
                                                      rw [← hl1379]
                                                      have hJ1380 : Inv (ac_sl σ lw1378) := ⟨hJ1377.1, hJ1377.2⟩
                                                      refine at_iinc C (v := (((((((((((((((0 : Int32) + (1 : Int32)) + (1 : Int32)) + (1 : Int32)) + (1 : Int32)) + (1 : Int32)) + (1 : Int32)) + (1 : Int32)) + (1 : Int32)) + (1 : Int32)) + (1 : Int32)) + (1 : Int32)) + (1 : Int32)) + (1 : Int32)) + (1 : Int32))) (lv' := [(1, .int (((((((((((((((0 : Int32) + (1 : Int32)) + (1 : Int32)) + (1 : Int32)) + (1 : Int32)) + (1 : Int32)) + (1 : Int32)) + (1 : Int32)) + (1 : Int32)) + (1 : Int32)) + (1 : Int32)) + (1 : Int32)) + (1 : Int32)) + (1 : Int32)) + (1 : Int32))), (0, .ref (e_q E 30))]) 0 dX7_digest_279 rfl rfl hn1 rfl ?_
                                                      refine at_goto C 263 dX7_digest_282 (by decide) ?_
                                                      refine at_iload_n C 0 dX7_digest_263 rfl ?_
                                                      refine at_bipush C (16 : Int32) dX7_digest_264 (by decide) ?_
                                                      refine at_icmp_ge C 285 dX7_digest_266 (by decide) (fun c1381 => absurd c1381 (iv_xle (iv_c (c := 16) (x := (16 : Int32)) (by decide)) (iv_add (iv_add (iv_add (iv_add (iv_add (iv_add (iv_add (iv_add (iv_add (iv_add (iv_add (iv_add (iv_add (iv_add (iv_c (c := 0) (x := (0 : Int32)) (by decide)) (iv_c (c := 1) (x := (1 : Int32)) (by decide)) (by decide) (by decide)) (iv_c (c := 1) (x := (1 : Int32)) (by decide)) (by decide) (by decide)) (iv_c (c := 1) (x := (1 : Int32)) (by decide)) (by decide) (by decide)) (iv_c (c := 1) (x := (1 : Int32)) (by decide)) (by decide) (by decide)) (iv_c (c := 1) (x := (1 : Int32)) (by decide)) (by decide) (by decide)) (iv_c (c := 1) (x := (1 : Int32)) (by decide)) (by decide) (by decide)) (iv_c (c := 1) (x := (1 : Int32)) (by decide)) (by decide) (by decide)) (iv_c (c := 1) (x := (1 : Int32)) (by decide)) (by decide) (by decide)) (iv_c (c := 1) (x := (1 : Int32)) (by decide)) (by decide) (by decide)) (iv_c (c := 1) (x := (1 : Int32)) (by decide)) (by decide) (by decide)) (iv_c (c := 1) (x := (1 : Int32)) (by decide)) (by decide) (by decide)) (iv_c (c := 1) (x := (1 : Int32)) (by decide)) (by decide) (by decide)) (iv_c (c := 1) (x := (1 : Int32)) (by decide)) (by decide) (by decide)) (iv_c (c := 1) (x := (1 : Int32)) (by decide)) (by decide) (by decide)) (by decide))) (fun c1381 => ?_)
                                                      refine at_aload_n C 1 dX7_digest_269 rfl ?_
                                                      refine at_aload_n C 1 dX7_digest_270 rfl ?_
                                                      refine gf_X7_84 C dX7_digest_271 ?_
                                                      refine at_iload_n C 0 dX7_digest_274 rfl ?_
                                                      refine at_iald C (c := 51) rfl (iv_in (n := 16) (iv_add (iv_add (iv_add (iv_add (iv_add (iv_add (iv_add (iv_add (iv_add (iv_add (iv_add (iv_add (iv_add (iv_add (iv_c (c := 0) (x := (0 : Int32)) (by decide)) (iv_c (c := 1) (x := (1 : Int32)) (by decide)) (by decide) (by decide)) (iv_c (c := 1) (x := (1 : Int32)) (by decide)) (by decide) (by decide)) (iv_c (c := 1) (x := (1 : Int32)) (by decide)) (by decide) (by decide)) (iv_c (c := 1) (x := (1 : Int32)) (by decide)) (by decide) (by decide)) (iv_c (c := 1) (x := (1 : Int32)) (by decide)) (by decide) (by decide)) (iv_c (c := 1) (x := (1 : Int32)) (by decide)) (by decide) (by decide)) (iv_c (c := 1) (x := (1 : Int32)) (by decide)) (by decide) (by decide)) (iv_c (c := 1) (x := (1 : Int32)) (by decide)) (by decide) (by decide)) (iv_c (c := 1) (x := (1 : Int32)) (by decide)) (by decide) (by decide)) (iv_c (c := 1) (x := (1 : Int32)) (by decide)) (by decide) (by decide)) (iv_c (c := 1) (x := (1 : Int32)) (by decide)) (by decide) (by decide)) (iv_c (c := 1) (x := (1 : Int32)) (by decide)) (by decide) (by decide)) (iv_c (c := 1) (x := (1 : Int32)) (by decide)) (by decide) (by decide)) (iv_c (c := 1) (x := (1 : Int32)) (by decide)) (by decide) (by decide)) (by decide) (by decide)) dX7_digest_275 ?_
                                                      show AT E 276 [(1, .int (((((((((((((((0 : Int32) + (1 : Int32)) + (1 : Int32)) + (1 : Int32)) + (1 : Int32)) + (1 : Int32)) + (1 : Int32)) + (1 : Int32)) + (1 : Int32)) + (1 : Int32)) + (1 : Int32)) + (1 : Int32)) + (1 : Int32)) + (1 : Int32)) + (1 : Int32))), (0, .ref (e_q E 30))] [.int (ac_ga σ 51 ((((((((((((((((0 : Int32) + (1 : Int32)) + (1 : Int32)) + (1 : Int32)) + (1 : Int32)) + (1 : Int32)) + (1 : Int32)) + (1 : Int32)) + (1 : Int32)) + (1 : Int32)) + (1 : Int32)) + (1 : Int32)) + (1 : Int32)) + (1 : Int32)) + (1 : Int32))).toNatClampNeg), .ref (e_q E 30)] (ac_sl σ lw1378)
                                                      refine at_Vv C (As := [.int (ac_ga σ 51 ((((((((((((((((0 : Int32) + (1 : Int32)) + (1 : Int32)) + (1 : Int32)) + (1 : Int32)) + (1 : Int32)) + (1 : Int32)) + (1 : Int32)) + (1 : Int32)) + (1 : Int32)) + (1 : Int32)) + (1 : Int32)) + (1 : Int32)) + (1 : Int32)) + (1 : Int32))).toNatClampNeg)]) (st := []) (b := 30) (ci := 7) (cz_X7_add (ac_sl σ lw1378) (ac_ga σ 51 ((((((((((((((((0 : Int32) + (1 : Int32)) + (1 : Int32)) + (1 : Int32)) + (1 : Int32)) + (1 : Int32)) + (1 : Int32)) + (1 : Int32)) + (1 : Int32)) + (1 : Int32)) + (1 : Int32)) + (1 : Int32)) + (1 : Int32)) + (1 : Int32)) + (1 : Int32))).toNatClampNeg) hJ1380) mb_X7_add ml_X7_244 rfl rfl rfl (by decide) rfl (Nat.le_of_ble_eq_true rfl) dX7_digest_276 ?_
                                                      rintro _ ⟨rfl, hJ1382⟩
                                                      · obtain ⟨lw1383, hl1384⟩ : ∃ l : Int64, l = (((31 : Int64) * lw1378) + ((ac_ga σ 51 ((((((((((((((((0 : Int32) + (1 : Int32)) + (1 : Int32)) + (1 : Int32)) + (1 : Int32)) + (1 : Int32)) + (1 : Int32)) + (1 : Int32)) + (1 : Int32)) + (1 : Int32)) + (1 : Int32)) + (1 : Int32)) + (1 : Int32)) + (1 : Int32)) + (1 : Int32))).toNatClampNeg)).toInt64) := ⟨_, rfl⟩
                                                        show AT E 279 [(1, .int (((((((((((((((0 : Int32) + (1 : Int32)) + (1 : Int32)) + (1 : Int32)) + (1 : Int32)) + (1 : Int32)) + (1 : Int32)) + (1 : Int32)) + (1 : Int32)) + (1 : Int32)) + (1 : Int32)) + (1 : Int32)) + (1 : Int32)) + (1 : Int32)) + (1 : Int32))), (0, .ref (e_q E 30))] [] (ac_sl σ (((31 : Int64) * lw1378) + ((ac_ga σ 51 ((((((((((((((((0 : Int32) + (1 : Int32)) + (1 : Int32)) + (1 : Int32)) + (1 : Int32)) + (1 : Int32)) + (1 : Int32)) + (1 : Int32)) + (1 : Int32)) + (1 : Int32)) + (1 : Int32)) + (1 : Int32)) + (1 : Int32)) + (1 : Int32)) + (1 : Int32))).toNatClampNeg)).toInt64))
                                                        rw [← hl1384]
                                                        have hJ1385 : Inv (ac_sl σ lw1383) := ⟨hJ1382.1, hJ1382.2⟩
                                                        refine at_iinc C (v := ((((((((((((((((0 : Int32) + (1 : Int32)) + (1 : Int32)) + (1 : Int32)) + (1 : Int32)) + (1 : Int32)) + (1 : Int32)) + (1 : Int32)) + (1 : Int32)) + (1 : Int32)) + (1 : Int32)) + (1 : Int32)) + (1 : Int32)) + (1 : Int32)) + (1 : Int32)) + (1 : Int32))) (lv' := [(1, .int ((((((((((((((((0 : Int32) + (1 : Int32)) + (1 : Int32)) + (1 : Int32)) + (1 : Int32)) + (1 : Int32)) + (1 : Int32)) + (1 : Int32)) + (1 : Int32)) + (1 : Int32)) + (1 : Int32)) + (1 : Int32)) + (1 : Int32)) + (1 : Int32)) + (1 : Int32)) + (1 : Int32))), (0, .ref (e_q E 30))]) 0 dX7_digest_279 rfl rfl hn1 rfl ?_
                                                        refine at_goto C 263 dX7_digest_282 (by decide) ?_
                                                        refine at_iload_n C 0 dX7_digest_263 rfl ?_
                                                        refine at_bipush C (16 : Int32) dX7_digest_264 (by decide) ?_
                                                        refine at_icmp_ge C 285 dX7_digest_266 (by decide) (fun c1386 => absurd c1386 (iv_xle (iv_c (c := 16) (x := (16 : Int32)) (by decide)) (iv_add (iv_add (iv_add (iv_add (iv_add (iv_add (iv_add (iv_add (iv_add (iv_add (iv_add (iv_add (iv_add (iv_add (iv_add (iv_c (c := 0) (x := (0 : Int32)) (by decide)) (iv_c (c := 1) (x := (1 : Int32)) (by decide)) (by decide) (by decide)) (iv_c (c := 1) (x := (1 : Int32)) (by decide)) (by decide) (by decide)) (iv_c (c := 1) (x := (1 : Int32)) (by decide)) (by decide) (by decide)) (iv_c (c := 1) (x := (1 : Int32)) (by decide)) (by decide) (by decide)) (iv_c (c := 1) (x := (1 : Int32)) (by decide)) (by decide) (by decide)) (iv_c (c := 1) (x := (1 : Int32)) (by decide)) (by decide) (by decide)) (iv_c (c := 1) (x := (1 : Int32)) (by decide)) (by decide) (by decide)) (iv_c (c := 1) (x := (1 : Int32)) (by decide)) (by decide) (by decide)) (iv_c (c := 1) (x := (1 : Int32)) (by decide)) (by decide) (by decide)) (iv_c (c := 1) (x := (1 : Int32)) (by decide)) (by decide) (by decide)) (iv_c (c := 1) (x := (1 : Int32)) (by decide)) (by decide) (by decide)) (iv_c (c := 1) (x := (1 : Int32)) (by decide)) (by decide) (by decide)) (iv_c (c := 1) (x := (1 : Int32)) (by decide)) (by decide) (by decide)) (iv_c (c := 1) (x := (1 : Int32)) (by decide)) (by decide) (by decide)) (iv_c (c := 1) (x := (1 : Int32)) (by decide)) (by decide) (by decide)) (by decide))) (fun c1386 => ?_)
                                                        refine at_aload_n C 1 dX7_digest_269 rfl ?_
                                                        refine at_aload_n C 1 dX7_digest_270 rfl ?_
                                                        refine gf_X7_84 C dX7_digest_271 ?_
                                                        refine at_iload_n C 0 dX7_digest_274 rfl ?_
                                                        refine at_iald C (c := 51) rfl (iv_in (n := 16) (iv_add (iv_add (iv_add (iv_add (iv_add (iv_add (iv_add (iv_add (iv_add (iv_add (iv_add (iv_add (iv_add (iv_add (iv_add (iv_c (c := 0) (x := (0 : Int32)) (by decide)) (iv_c (c := 1) (x := (1 : Int32)) (by decide)) (by decide) (by decide)) (iv_c (c := 1) (x := (1 : Int32)) (by decide)) (by decide) (by decide)) (iv_c (c := 1) (x := (1 : Int32)) (by decide)) (by decide) (by decide)) (iv_c (c := 1) (x := (1 : Int32)) (by decide)) (by decide) (by decide)) (iv_c (c := 1) (x := (1 : Int32)) (by decide)) (by decide) (by decide)) (iv_c (c := 1) (x := (1 : Int32)) (by decide)) (by decide) (by decide)) (iv_c (c := 1) (x := (1 : Int32)) (by decide)) (by decide) (by decide)) (iv_c (c := 1) (x := (1 : Int32)) (by decide)) (by decide) (by decide)) (iv_c (c := 1) (x := (1 : Int32)) (by decide)) (by decide) (by decide)) (iv_c (c := 1) (x := (1 : Int32)) (by decide)) (by decide) (by decide)) (iv_c (c := 1) (x := (1 : Int32)) (by decide)) (by decide) (by decide)) (iv_c (c := 1) (x := (1 : Int32)) (by decide)) (by decide) (by decide)) (iv_c (c := 1) (x := (1 : Int32)) (by decide)) (by decide) (by decide)) (iv_c (c := 1) (x := (1 : Int32)) (by decide)) (by decide) (by decide)) (iv_c (c := 1) (x := (1 : Int32)) (by decide)) (by decide) (by decide)) (by decide) (by decide)) dX7_digest_275 ?_
                                                        show AT E 276 [(1, .int ((((((((((((((((0 : Int32) + (1 : Int32)) + (1 : Int32)) + (1 : Int32)) + (1 : Int32)) + (1 : Int32)) + (1 : Int32)) + (1 : Int32)) + (1 : Int32)) + (1 : Int32)) + (1 : Int32)) + (1 : Int32)) + (1 : Int32)) + (1 : Int32)) + (1 : Int32)) + (1 : Int32))), (0, .ref (e_q E 30))] [.int (ac_ga σ 51 (((((((((((((((((0 : Int32) + (1 : Int32)) + (1 : Int32)) + (1 : Int32)) + (1 : Int32)) + (1 : Int32)) + (1 : Int32)) + (1 : Int32)) + (1 : Int32)) + (1 : Int32)) + (1 : Int32)) + (1 : Int32)) + (1 : Int32)) + (1 : Int32)) + (1 : Int32)) + (1 : Int32))).toNatClampNeg), .ref (e_q E 30)] (ac_sl σ lw1383)
                                                        refine at_Vv C (As := [.int (ac_ga σ 51 (((((((((((((((((0 : Int32) + (1 : Int32)) + (1 : Int32)) + (1 : Int32)) + (1 : Int32)) + (1 : Int32)) + (1 : Int32)) + (1 : Int32)) + (1 : Int32)) + (1 : Int32)) + (1 : Int32)) + (1 : Int32)) + (1 : Int32)) + (1 : Int32)) + (1 : Int32)) + (1 : Int32))).toNatClampNeg)]) (st := []) (b := 30) (ci := 7) (cz_X7_add (ac_sl σ lw1383) (ac_ga σ 51 (((((((((((((((((0 : Int32) + (1 : Int32)) + (1 : Int32)) + (1 : Int32)) + (1 : Int32)) + (1 : Int32)) + (1 : Int32)) + (1 : Int32)) + (1 : Int32)) + (1 : Int32)) + (1 : Int32)) + (1 : Int32)) + (1 : Int32)) + (1 : Int32)) + (1 : Int32)) + (1 : Int32))).toNatClampNeg) hJ1385) mb_X7_add ml_X7_244 rfl rfl rfl (by decide) rfl (Nat.le_of_ble_eq_true rfl) dX7_digest_276 ?_
                                                        rintro _ ⟨rfl, hJ1387⟩
                                                        · obtain ⟨lw1388, hl1389⟩ : ∃ l : Int64, l = (((31 : Int64) * lw1383) + ((ac_ga σ 51 (((((((((((((((((0 : Int32) + (1 : Int32)) + (1 : Int32)) + (1 : Int32)) + (1 : Int32)) + (1 : Int32)) + (1 : Int32)) + (1 : Int32)) + (1 : Int32)) + (1 : Int32)) + (1 : Int32)) + (1 : Int32)) + (1 : Int32)) + (1 : Int32)) + (1 : Int32)) + (1 : Int32))).toNatClampNeg)).toInt64) := ⟨_, rfl⟩
                                                          show AT E 279 [(1, .int ((((((((((((((((0 : Int32) + (1 : Int32)) + (1 : Int32)) + (1 : Int32)) + (1 : Int32)) + (1 : Int32)) + (1 : Int32)) + (1 : Int32)) + (1 : Int32)) + (1 : Int32)) + (1 : Int32)) + (1 : Int32)) + (1 : Int32)) + (1 : Int32)) + (1 : Int32)) + (1 : Int32))), (0, .ref (e_q E 30))] [] (ac_sl σ (((31 : Int64) * lw1383) + ((ac_ga σ 51 (((((((((((((((((0 : Int32) + (1 : Int32)) + (1 : Int32)) + (1 : Int32)) + (1 : Int32)) + (1 : Int32)) + (1 : Int32)) + (1 : Int32)) + (1 : Int32)) + (1 : Int32)) + (1 : Int32)) + (1 : Int32)) + (1 : Int32)) + (1 : Int32)) + (1 : Int32)) + (1 : Int32))).toNatClampNeg)).toInt64))
                                                          rw [← hl1389]
                                                          have hJ1390 : Inv (ac_sl σ lw1388) := ⟨hJ1387.1, hJ1387.2⟩
                                                          refine at_iinc C (v := (((((((((((((((((0 : Int32) + (1 : Int32)) + (1 : Int32)) + (1 : Int32)) + (1 : Int32)) + (1 : Int32)) + (1 : Int32)) + (1 : Int32)) + (1 : Int32)) + (1 : Int32)) + (1 : Int32)) + (1 : Int32)) + (1 : Int32)) + (1 : Int32)) + (1 : Int32)) + (1 : Int32)) + (1 : Int32))) (lv' := [(1, .int (((((((((((((((((0 : Int32) + (1 : Int32)) + (1 : Int32)) + (1 : Int32)) + (1 : Int32)) + (1 : Int32)) + (1 : Int32)) + (1 : Int32)) + (1 : Int32)) + (1 : Int32)) + (1 : Int32)) + (1 : Int32)) + (1 : Int32)) + (1 : Int32)) + (1 : Int32)) + (1 : Int32)) + (1 : Int32))), (0, .ref (e_q E 30))]) 0 dX7_digest_279 rfl rfl hn1 rfl ?_
                                                          refine at_goto C 263 dX7_digest_282 (by decide) ?_
                                                          refine at_iload_n C 0 dX7_digest_263 rfl ?_
                                                          refine at_bipush C (16 : Int32) dX7_digest_264 (by decide) ?_
                                                          refine at_icmp_ge C 285 dX7_digest_266 (by decide) (fun c1391 => ?_) (fun c1391 => absurd (Int32.not_le.mp c1391) (iv_xlt (iv_add (iv_add (iv_add (iv_add (iv_add (iv_add (iv_add (iv_add (iv_add (iv_add (iv_add (iv_add (iv_add (iv_add (iv_add (iv_add (iv_c (c := 0) (x := (0 : Int32)) (by decide)) (iv_c (c := 1) (x := (1 : Int32)) (by decide)) (by decide) (by decide)) (iv_c (c := 1) (x := (1 : Int32)) (by decide)) (by decide) (by decide)) (iv_c (c := 1) (x := (1 : Int32)) (by decide)) (by decide) (by decide)) (iv_c (c := 1) (x := (1 : Int32)) (by decide)) (by decide) (by decide)) (iv_c (c := 1) (x := (1 : Int32)) (by decide)) (by decide) (by decide)) (iv_c (c := 1) (x := (1 : Int32)) (by decide)) (by decide) (by decide)) (iv_c (c := 1) (x := (1 : Int32)) (by decide)) (by decide) (by decide)) (iv_c (c := 1) (x := (1 : Int32)) (by decide)) (by decide) (by decide)) (iv_c (c := 1) (x := (1 : Int32)) (by decide)) (by decide) (by decide)) (iv_c (c := 1) (x := (1 : Int32)) (by decide)) (by decide) (by decide)) (iv_c (c := 1) (x := (1 : Int32)) (by decide)) (by decide) (by decide)) (iv_c (c := 1) (x := (1 : Int32)) (by decide)) (by decide) (by decide)) (iv_c (c := 1) (x := (1 : Int32)) (by decide)) (by decide) (by decide)) (iv_c (c := 1) (x := (1 : Int32)) (by decide)) (by decide) (by decide)) (iv_c (c := 1) (x := (1 : Int32)) (by decide)) (by decide) (by decide)) (iv_c (c := 1) (x := (1 : Int32)) (by decide)) (by decide) (by decide)) (iv_c (c := 16) (x := (16 : Int32)) (by decide)) (by decide)))
                                                          refine at_iconst C (0 : Int32) dX7_digest_285 (by decide) ?_
                                                          refine at_istore_n C (lv' := [(1, .int (0 : Int32)), (0, .ref (e_q E 30))]) dX7_digest_286 hn1 rfl ?_
                                                          refine at_iload_n C 0 dX7_digest_287 rfl ?_
                                                          refine at_iconst C (4 : Int32) dX7_digest_288 (by decide) ?_
                                                          refine at_icmp_ge C 307 dX7_digest_289 (by decide) (fun c1392 => absurd c1392 (iv_xle (iv_c (c := 4) (x := (4 : Int32)) (by decide)) (iv_c (c := 0) (x := (0 : Int32)) (by decide)) (by decide))) (fun c1392 => ?_)
                                                          refine at_aload_n C 1 dX7_digest_292 rfl ?_
                                                          refine at_aload_n C 1 dX7_digest_293 rfl ?_
                                                          refine at_iload_n C 0 dX7_digest_294 rfl ?_
                                                          refine at_Vi C (As := [.int (0 : Int32)]) (st := [.ref (e_q E 30)]) (b := 30) (ci := 7) (cz_X7_run (ac_sl σ lw1388) (0 : Int32) hJ1390 (show iv 0 0 (ac_gi σ 15) from gf15)) mb_X7_run ml_X7_247 rfl rfl rfl (by decide) rfl (Nat.le_of_ble_eq_true rfl) dX7_digest_295 ?_
                                                          rintro _ _ (⟨c1393, rfl, rfl, hJ1394⟩ | ⟨c1395, rfl, rfl, hJ1396⟩)
                                                          · exact absurd (iv_wk (iv_c (c := 0) (x := (0 : Int32)) (by decide)) (by decide) (by decide) : iv 0 3 (0 : Int32)) c1393
                                                          · have hJ1397 : Inv (ac_sl (ac_si (ac_si (ac_si σ 22 (0 : Int32)) 23 (0 : Int32)) 24 (0 : Int32)) lw1388) := ⟨hJ1396.1, hJ1396.2⟩
                                                            show AT E 298 [(1, .int (0 : Int32)), (0, .ref (e_q E 30))] [.int (0 : Int32), .ref (e_q E 30)] (ac_sl (ac_si (ac_si (ac_si σ 22 (0 : Int32)) 23 (0 : Int32)) 24 (0 : Int32)) lw1388)
                                                            refine at_Vv C (As := [.int (0 : Int32)]) (st := []) (b := 30) (ci := 7) (cz_X7_add (ac_sl (ac_si (ac_si (ac_si σ 22 (0 : Int32)) 23 (0 : Int32)) 24 (0 : Int32)) lw1388) (0 : Int32) hJ1397) mb_X7_add ml_X7_244 rfl rfl rfl (by decide) rfl (Nat.le_of_ble_eq_true rfl) dX7_digest_298 ?_
                                                            rintro _ ⟨rfl, hJ1398⟩
                                                            · obtain ⟨lw1399, hl1400⟩ : ∃ l : Int64, l = (((31 : Int64) * lw1388) + ((0 : Int32)).toInt64) := ⟨_, rfl⟩
                                                              show AT E 301 [(1, .int (0 : Int32)), (0, .ref (e_q E 30))] [] (ac_sl (ac_si (ac_si (ac_si σ 22 (0 : Int32)) 23 (0 : Int32)) 24 (0 : Int32)) (((31 : Int64) * lw1388) + ((0 : Int32)).toInt64))
                                                              rw [← hl1400]
                                                              have hJ1401 : Inv (ac_sl (ac_si (ac_si (ac_si σ 22 (0 : Int32)) 23 (0 : Int32)) 24 (0 : Int32)) lw1399) := ⟨hJ1398.1, hJ1398.2⟩
                                                              refine at_iinc C (v := ((0 : Int32) + (1 : Int32))) (lv' := [(1, .int ((0 : Int32) + (1 : Int32))), (0, .ref (e_q E 30))]) 0 dX7_digest_301 rfl rfl hn1 rfl ?_
                                                              refine at_goto C 287 dX7_digest_304 (by decide) ?_
                                                              refine at_iload_n C 0 dX7_digest_287 rfl ?_
                                                              refine at_iconst C (4 : Int32) dX7_digest_288 (by decide) ?_
                                                              refine at_icmp_ge C 307 dX7_digest_289 (by decide) (fun c1402 => absurd c1402 (iv_xle (iv_c (c := 4) (x := (4 : Int32)) (by decide)) (iv_add (iv_c (c := 0) (x := (0 : Int32)) (by decide)) (iv_c (c := 1) (x := (1 : Int32)) (by decide)) (by decide) (by decide)) (by decide))) (fun c1402 => ?_)
                                                              refine at_aload_n C 1 dX7_digest_292 rfl ?_
                                                              refine at_aload_n C 1 dX7_digest_293 rfl ?_
                                                              refine at_iload_n C 0 dX7_digest_294 rfl ?_
                                                              refine at_Vi C (As := [.int ((0 : Int32) + (1 : Int32))]) (st := [.ref (e_q E 30)]) (b := 30) (ci := 7) (cz_X7_run (ac_sl (ac_si (ac_si (ac_si σ 22 (0 : Int32)) 23 (0 : Int32)) 24 (0 : Int32)) lw1399) ((0 : Int32) + (1 : Int32)) hJ1401 (show iv 0 0 (ac_gi σ 15) from gf15)) mb_X7_run ml_X7_247 rfl rfl rfl (by decide) rfl (Nat.le_of_ble_eq_true rfl) dX7_digest_295 ?_
                                                              rintro _ _ (⟨c1403, rfl, rfl, hJ1404⟩ | ⟨c1405, rfl, rfl, hJ1406⟩)
                                                              · exact absurd (iv_wk (iv_add (iv_c (c := 0) (x := (0 : Int32)) (by decide)) (iv_c (c := 1) (x := (1 : Int32)) (by decide)) (by decide) (by decide)) (by decide) (by decide) : iv 0 3 ((0 : Int32) + (1 : Int32))) c1403
                                                              · have hJ1407 : Inv (ac_sl (ac_si (ac_si (ac_si (ac_si (ac_si (ac_si σ 22 (0 : Int32)) 23 (0 : Int32)) 24 (0 : Int32)) 22 (0 : Int32)) 23 (0 : Int32)) 24 (0 : Int32)) lw1399) := ⟨hJ1406.1, hJ1406.2⟩
                                                                show AT E 298 [(1, .int ((0 : Int32) + (1 : Int32))), (0, .ref (e_q E 30))] [.int (0 : Int32), .ref (e_q E 30)] (ac_sl (ac_si (ac_si (ac_si (ac_si (ac_si (ac_si σ 22 (0 : Int32)) 23 (0 : Int32)) 24 (0 : Int32)) 22 (0 : Int32)) 23 (0 : Int32)) 24 (0 : Int32)) lw1399)
                                                                refine at_Vv C (As := [.int (0 : Int32)]) (st := []) (b := 30) (ci := 7) (cz_X7_add (ac_sl (ac_si (ac_si (ac_si (ac_si (ac_si (ac_si σ 22 (0 : Int32)) 23 (0 : Int32)) 24 (0 : Int32)) 22 (0 : Int32)) 23 (0 : Int32)) 24 (0 : Int32)) lw1399) (0 : Int32) hJ1407) mb_X7_add ml_X7_244 rfl rfl rfl (by decide) rfl (Nat.le_of_ble_eq_true rfl) dX7_digest_298 ?_
                                                                rintro _ ⟨rfl, hJ1408⟩
                                                                · obtain ⟨lw1409, hl1410⟩ : ∃ l : Int64, l = (((31 : Int64) * lw1399) + ((0 : Int32)).toInt64) := ⟨_, rfl⟩
                                                                  show AT E 301 [(1, .int ((0 : Int32) + (1 : Int32))), (0, .ref (e_q E 30))] [] (ac_sl (ac_si (ac_si (ac_si (ac_si (ac_si (ac_si σ 22 (0 : Int32)) 23 (0 : Int32)) 24 (0 : Int32)) 22 (0 : Int32)) 23 (0 : Int32)) 24 (0 : Int32)) (((31 : Int64) * lw1399) + ((0 : Int32)).toInt64))
                                                                  rw [← hl1410]
                                                                  have hJ1411 : Inv (ac_sl (ac_si (ac_si (ac_si (ac_si (ac_si (ac_si σ 22 (0 : Int32)) 23 (0 : Int32)) 24 (0 : Int32)) 22 (0 : Int32)) 23 (0 : Int32)) 24 (0 : Int32)) lw1409) := ⟨hJ1408.1, hJ1408.2⟩
                                                                  refine at_iinc C (v := (((0 : Int32) + (1 : Int32)) + (1 : Int32))) (lv' := [(1, .int (((0 : Int32) + (1 : Int32)) + (1 : Int32))), (0, .ref (e_q E 30))]) 0 dX7_digest_301 rfl rfl hn1 rfl ?_
                                                                  refine at_goto C 287 dX7_digest_304 (by decide) ?_
                                                                  refine at_iload_n C 0 dX7_digest_287 rfl ?_
                                                                  refine at_iconst C (4 : Int32) dX7_digest_288 (by decide) ?_
                                                                  refine at_icmp_ge C 307 dX7_digest_289 (by decide) (fun c1412 => absurd c1412 (iv_xle (iv_c (c := 4) (x := (4 : Int32)) (by decide)) (iv_add (iv_add (iv_c (c := 0) (x := (0 : Int32)) (by decide)) (iv_c (c := 1) (x := (1 : Int32)) (by decide)) (by decide) (by decide)) (iv_c (c := 1) (x := (1 : Int32)) (by decide)) (by decide) (by decide)) (by decide))) (fun c1412 => ?_)
                                                                  refine at_aload_n C 1 dX7_digest_292 rfl ?_
                                                                  refine at_aload_n C 1 dX7_digest_293 rfl ?_
                                                                  refine at_iload_n C 0 dX7_digest_294 rfl ?_
                                                                  refine at_Vi C (As := [.int (((0 : Int32) + (1 : Int32)) + (1 : Int32))]) (st := [.ref (e_q E 30)]) (b := 30) (ci := 7) (cz_X7_run (ac_sl (ac_si (ac_si (ac_si (ac_si (ac_si (ac_si σ 22 (0 : Int32)) 23 (0 : Int32)) 24 (0 : Int32)) 22 (0 : Int32)) 23 (0 : Int32)) 24 (0 : Int32)) lw1409) (((0 : Int32) + (1 : Int32)) + (1 : Int32)) hJ1411 (show iv 0 0 (ac_gi σ 15) from gf15)) mb_X7_run ml_X7_247 rfl rfl rfl (by decide) rfl (Nat.le_of_ble_eq_true rfl) dX7_digest_295 ?_
                                                                  rintro _ _ (⟨c1413, rfl, rfl, hJ1414⟩ | ⟨c1415, rfl, rfl, hJ1416⟩)
                                                                  · exact absurd (iv_wk (iv_add (iv_add (iv_c (c := 0) (x := (0 : Int32)) (by decide)) (iv_c (c := 1) (x := (1 : Int32)) (by decide)) (by decide) (by decide)) (iv_c (c := 1) (x := (1 : Int32)) (by decide)) (by decide) (by decide)) (by decide) (by decide) : iv 0 3 (((0 : Int32) + (1 : Int32)) + (1 : Int32))) c1413
                                                                  · have hJ1417 : Inv (ac_sl (ac_si (ac_si (ac_si (ac_si (ac_si (ac_si (ac_si (ac_si (ac_si σ 22 (0 : Int32)) 23 (0 : Int32)) 24 (0 : Int32)) 22 (0 : Int32)) 23 (0 : Int32)) 24 (0 : Int32)) 22 (0 : Int32)) 23 (0 : Int32)) 24 (0 : Int32)) lw1409) := ⟨hJ1416.1, hJ1416.2⟩
                                                                    show AT E 298 [(1, .int (((0 : Int32) + (1 : Int32)) + (1 : Int32))), (0, .ref (e_q E 30))] [.int (0 : Int32), .ref (e_q E 30)] (ac_sl (ac_si (ac_si (ac_si (ac_si (ac_si (ac_si (ac_si (ac_si (ac_si σ 22 (0 : Int32)) 23 (0 : Int32)) 24 (0 : Int32)) 22 (0 : Int32)) 23 (0 : Int32)) 24 (0 : Int32)) 22 (0 : Int32)) 23 (0 : Int32)) 24 (0 : Int32)) lw1409)
                                                                    refine at_Vv C (As := [.int (0 : Int32)]) (st := []) (b := 30) (ci := 7) (cz_X7_add (ac_sl (ac_si (ac_si (ac_si (ac_si (ac_si (ac_si (ac_si (ac_si (ac_si σ 22 (0 : Int32)) 23 (0 : Int32)) 24 (0 : Int32)) 22 (0 : Int32)) 23 (0 : Int32)) 24 (0 : Int32)) 22 (0 : Int32)) 23 (0 : Int32)) 24 (0 : Int32)) lw1409) (0 : Int32) hJ1417) mb_X7_add ml_X7_244 rfl rfl rfl (by decide) rfl (Nat.le_of_ble_eq_true rfl) dX7_digest_298 ?_
                                                                    rintro _ ⟨rfl, hJ1418⟩
                                                                    · obtain ⟨lw1419, hl1420⟩ : ∃ l : Int64, l = (((31 : Int64) * lw1409) + ((0 : Int32)).toInt64) := ⟨_, rfl⟩
                                                                      show AT E 301 [(1, .int (((0 : Int32) + (1 : Int32)) + (1 : Int32))), (0, .ref (e_q E 30))] [] (ac_sl (ac_si (ac_si (ac_si (ac_si (ac_si (ac_si (ac_si (ac_si (ac_si σ 22 (0 : Int32)) 23 (0 : Int32)) 24 (0 : Int32)) 22 (0 : Int32)) 23 (0 : Int32)) 24 (0 : Int32)) 22 (0 : Int32)) 23 (0 : Int32)) 24 (0 : Int32)) (((31 : Int64) * lw1409) + ((0 : Int32)).toInt64))
                                                                      rw [← hl1420]
                                                                      have hJ1421 : Inv (ac_sl (ac_si (ac_si (ac_si (ac_si (ac_si (ac_si (ac_si (ac_si (ac_si σ 22 (0 : Int32)) 23 (0 : Int32)) 24 (0 : Int32)) 22 (0 : Int32)) 23 (0 : Int32)) 24 (0 : Int32)) 22 (0 : Int32)) 23 (0 : Int32)) 24 (0 : Int32)) lw1419) := ⟨hJ1418.1, hJ1418.2⟩
                                                                      refine at_iinc C (v := ((((0 : Int32) + (1 : Int32)) + (1 : Int32)) + (1 : Int32))) (lv' := [(1, .int ((((0 : Int32) + (1 : Int32)) + (1 : Int32)) + (1 : Int32))), (0, .ref (e_q E 30))]) 0 dX7_digest_301 rfl rfl hn1 rfl ?_
                                                                      refine at_goto C 287 dX7_digest_304 (by decide) ?_
                                                                      refine at_iload_n C 0 dX7_digest_287 rfl ?_
                                                                      refine at_iconst C (4 : Int32) dX7_digest_288 (by decide) ?_
                                                                      refine at_icmp_ge C 307 dX7_digest_289 (by decide) (fun c1422 => absurd c1422 (iv_xle (iv_c (c := 4) (x := (4 : Int32)) (by decide)) (iv_add (iv_add (iv_add (iv_c (c := 0) (x := (0 : Int32)) (by decide)) (iv_c (c := 1) (x := (1 : Int32)) (by decide)) (by decide) (by decide)) (iv_c (c := 1) (x := (1 : Int32)) (by decide)) (by decide) (by decide)) (iv_c (c := 1) (x := (1 : Int32)) (by decide)) (by decide) (by decide)) (by decide))) (fun c1422 => ?_)
                                                                      refine at_aload_n C 1 dX7_digest_292 rfl ?_
                                                                      refine at_aload_n C 1 dX7_digest_293 rfl ?_
                                                                      refine at_iload_n C 0 dX7_digest_294 rfl ?_
                                                                      refine at_Vi C (As := [.int ((((0 : Int32) + (1 : Int32)) + (1 : Int32)) + (1 : Int32))]) (st := [.ref (e_q E 30)]) (b := 30) (ci := 7) (cz_X7_run (ac_sl (ac_si (ac_si (ac_si (ac_si (ac_si (ac_si (ac_si (ac_si (ac_si σ 22 (0 : Int32)) 23 (0 : Int32)) 24 (0 : Int32)) 22 (0 : Int32)) 23 (0 : Int32)) 24 (0 : Int32)) 22 (0 : Int32)) 23 (0 : Int32)) 24 (0 : Int32)) lw1419) ((((0 : Int32) + (1 : Int32)) + (1 : Int32)) + (1 : Int32)) hJ1421 (show iv 0 0 (ac_gi σ 15) from gf15)) mb_X7_run ml_X7_247 rfl rfl rfl (by decide) rfl (Nat.le_of_ble_eq_true rfl) dX7_digest_295 ?_
                                                                      rintro _ _ (⟨c1423, rfl, rfl, hJ1424⟩ | ⟨c1425, rfl, rfl, hJ1426⟩)
                                                                      · exact absurd (iv_wk (iv_add (iv_add (iv_add (iv_c (c := 0) (x := (0 : Int32)) (by decide)) (iv_c (c := 1) (x := (1 : Int32)) (by decide)) (by decide) (by decide)) (iv_c (c := 1) (x := (1 : Int32)) (by decide)) (by decide) (by decide)) (iv_c (c := 1) (x := (1 : Int32)) (by decide)) (by decide) (by decide)) (by decide) (by decide) : iv 0 3 ((((0 : Int32) + (1 : Int32)) + (1 : Int32)) + (1 : Int32))) c1423
                                                                      · have hJ1427 : Inv (ac_sl (ac_si (ac_si (ac_si (ac_si (ac_si (ac_si (ac_si (ac_si (ac_si (ac_si (ac_si (ac_si σ 22 (0 : Int32)) 23 (0 : Int32)) 24 (0 : Int32)) 22 (0 : Int32)) 23 (0 : Int32)) 24 (0 : Int32)) 22 (0 : Int32)) 23 (0 : Int32)) 24 (0 : Int32)) 22 (0 : Int32)) 23 (0 : Int32)) 24 (0 : Int32)) lw1419) := ⟨hJ1426.1, hJ1426.2⟩
                                                                        show AT E 298 [(1, .int ((((0 : Int32) + (1 : Int32)) + (1 : Int32)) + (1 : Int32))), (0, .ref (e_q E 30))] [.int (0 : Int32), .ref (e_q E 30)] (ac_sl (ac_si (ac_si (ac_si (ac_si (ac_si (ac_si (ac_si (ac_si (ac_si (ac_si (ac_si (ac_si σ 22 (0 : Int32)) 23 (0 : Int32)) 24 (0 : Int32)) 22 (0 : Int32)) 23 (0 : Int32)) 24 (0 : Int32)) 22 (0 : Int32)) 23 (0 : Int32)) 24 (0 : Int32)) 22 (0 : Int32)) 23 (0 : Int32)) 24 (0 : Int32)) lw1419)
                                                                        refine at_Vv C (As := [.int (0 : Int32)]) (st := []) (b := 30) (ci := 7) (cz_X7_add (ac_sl (ac_si (ac_si (ac_si (ac_si (ac_si (ac_si (ac_si (ac_si (ac_si (ac_si (ac_si (ac_si σ 22 (0 : Int32)) 23 (0 : Int32)) 24 (0 : Int32)) 22 (0 : Int32)) 23 (0 : Int32)) 24 (0 : Int32)) 22 (0 : Int32)) 23 (0 : Int32)) 24 (0 : Int32)) 22 (0 : Int32)) 23 (0 : Int32)) 24 (0 : Int32)) lw1419) (0 : Int32) hJ1427) mb_X7_add ml_X7_244 rfl rfl rfl (by decide) rfl (Nat.le_of_ble_eq_true rfl) dX7_digest_298 ?_
                                                                        rintro _ ⟨rfl, hJ1428⟩
                                                                        · obtain ⟨lw1429, hl1430⟩ : ∃ l : Int64, l = (((31 : Int64) * lw1419) + ((0 : Int32)).toInt64) := ⟨_, rfl⟩
                                                                          show AT E 301 [(1, .int ((((0 : Int32) + (1 : Int32)) + (1 : Int32)) + (1 : Int32))), (0, .ref (e_q E 30))] [] (ac_sl (ac_si (ac_si (ac_si (ac_si (ac_si (ac_si (ac_si (ac_si (ac_si (ac_si (ac_si (ac_si σ 22 (0 : Int32)) 23 (0 : Int32)) 24 (0 : Int32)) 22 (0 : Int32)) 23 (0 : Int32)) 24 (0 : Int32)) 22 (0 : Int32)) 23 (0 : Int32)) 24 (0 : Int32)) 22 (0 : Int32)) 23 (0 : Int32)) 24 (0 : Int32)) (((31 : Int64) * lw1419) + ((0 : Int32)).toInt64))
                                                                          rw [← hl1430]
                                                                          have hJ1431 : Inv (ac_sl (ac_si (ac_si (ac_si (ac_si (ac_si (ac_si (ac_si (ac_si (ac_si (ac_si (ac_si (ac_si σ 22 (0 : Int32)) 23 (0 : Int32)) 24 (0 : Int32)) 22 (0 : Int32)) 23 (0 : Int32)) 24 (0 : Int32)) 22 (0 : Int32)) 23 (0 : Int32)) 24 (0 : Int32)) 22 (0 : Int32)) 23 (0 : Int32)) 24 (0 : Int32)) lw1429) := ⟨hJ1428.1, hJ1428.2⟩
                                                                          refine at_iinc C (v := (((((0 : Int32) + (1 : Int32)) + (1 : Int32)) + (1 : Int32)) + (1 : Int32))) (lv' := [(1, .int (((((0 : Int32) + (1 : Int32)) + (1 : Int32)) + (1 : Int32)) + (1 : Int32))), (0, .ref (e_q E 30))]) 0 dX7_digest_301 rfl rfl hn1 rfl ?_
                                                                          refine at_goto C 287 dX7_digest_304 (by decide) ?_
                                                                          refine at_iload_n C 0 dX7_digest_287 rfl ?_
                                                                          refine at_iconst C (4 : Int32) dX7_digest_288 (by decide) ?_
                                                                          refine at_icmp_ge C 307 dX7_digest_289 (by decide) (fun c1432 => ?_) (fun c1432 => absurd (Int32.not_le.mp c1432) (iv_xlt (iv_add (iv_add (iv_add (iv_add (iv_c (c := 0) (x := (0 : Int32)) (by decide)) (iv_c (c := 1) (x := (1 : Int32)) (by decide)) (by decide) (by decide)) (iv_c (c := 1) (x := (1 : Int32)) (by decide)) (by decide) (by decide)) (iv_c (c := 1) (x := (1 : Int32)) (by decide)) (by decide) (by decide)) (iv_c (c := 1) (x := (1 : Int32)) (by decide)) (by decide) (by decide)) (iv_c (c := 4) (x := (4 : Int32)) (by decide)) (by decide)))
                                                                          refine at_aload_n C 1 dX7_digest_307 rfl ?_
                                                                          refine gf_X7_235 C dX7_digest_308 ?_
                                                                          show AT E 311 [(1, .int (((((0 : Int32) + (1 : Int32)) + (1 : Int32)) + (1 : Int32)) + (1 : Int32))), (0, .ref (e_q E 30))] [.long lw1429] (ac_sl (ac_si (ac_si (ac_si (ac_si (ac_si (ac_si (ac_si (ac_si (ac_si (ac_si (ac_si (ac_si σ 22 (0 : Int32)) 23 (0 : Int32)) 24 (0 : Int32)) 22 (0 : Int32)) 23 (0 : Int32)) 24 (0 : Int32)) 22 (0 : Int32)) 23 (0 : Int32)) 24 (0 : Int32)) 22 (0 : Int32)) 23 (0 : Int32)) 24 (0 : Int32)) lw1429)
                                                                          exact hR _ _ _ _ dX7_digest_311 ⟨(by rw [hl1430, hl1420, hl1410, hl1400, hl1389, hl1384, hl1379, hl1374, hl1369, hl1364, hl1359, hl1354, hl1349, hl1344, hl1339, hl1334, hl1329, hl1324, hl1319, hl1314, hl1306, hl1302, hl1298, hl1294, hl1289, hl1280, hl1271, hl1262]), (by rw [hl1430, hl1420, hl1410, hl1400, hl1389, hl1384, hl1379, hl1374, hl1369, hl1364, hl1359, hl1354, hl1349, hl1344, hl1339, hl1334, hl1329, hl1324, hl1319, hl1314, hl1306, hl1302, hl1298, hl1294, hl1289, hl1280, hl1271, hl1262]), hJ1431⟩
