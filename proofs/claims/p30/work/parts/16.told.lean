abbrev pc_X6_mast_0 (σ : SS) : Prop := (¬ (((ac_gi σ 0).toInt < 10)))
abbrev pc_X6_mast_1 (σ : SS) : Prop := (((ac_gi σ 0).toInt < 10))
abbrev po_X6_mast (σ : SS) (r : Int32) (σ' : SS) : Prop := (pc_X6_mast_0 σ  ∧ r = (-4 : Int32) ∧ σ = σ' ∧ Inv σ') ∨ (pc_X6_mast_1 σ  ∧ r = (((ac_gi σ 0) + (1 : Int32)) - (1 : Int32)) ∧ (ac_si (ac_si σ 3 ((ac_gi σ 3) + (1 : Int32))) 0 ((ac_gi σ 0) + (1 : Int32))) = σ' ∧ Inv σ')
theorem pi_X6_mast {σ : SS} {r : Int32} {u : SS} (h : po_X6_mast σ  r u) : Inv u := by
  rcases h with ⟨-, -, -, h⟩ | ⟨-, -, -, h⟩
  all_goals exact h
set_option maxHeartbeats 4000000 in
set_option maxRecDepth 100000 in
theorem ct_X6_mast (σ : SS) (hI : Inv σ) : ConI yX6_mast cX6_mast 1 (some .int) 0 (some 0) [] σ (po_X6_mast σ) := by
  refine conI_of (by decide) (fun q => Nat.le_of_ble_eq_true rfl) (fun E C en hR => ?_)
  refine at_aload_n C 0 dX6_mast_0 rfl ?_
  refine gf_X6_12 C dX6_mast_1 ?_
  refine gf_X6_59 C dX6_mast_4 ?_
  refine at_bipush C (10 : Int32) dX6_mast_7 (by decide) ?_
  refine at_icmp_lt C 15 dX6_mast_9 (by decide) (fun c36 => ?_) (fun c36 => ?_)
  · have f37 : iv 0 9 (ac_gi σ 0) := (iv_ltl (show iv 0 10 (ac_gi σ 0) from hI.1 0) (iv_c (c := 10) (x := (10 : Int32)) (by decide)) c36)
    refine at_aload_n C 0 dX6_mast_15 rfl ?_
    refine gf_X6_12 C dX6_mast_16 ?_
    refine at_dup C dX6_mast_19 rfl ?_
    refine gf_X6_63 C dX6_mast_20 ?_
    refine at_iconst C (1 : Int32) dX6_mast_23 (by decide) ?_
    refine at_iadd C dX6_mast_24 ?_
    refine pf_X6_63 C dX6_mast_25 ?_
    have hJ38 := Inv.si (k := 3) hI (show iv (-2147483648) 2147483647 ((ac_gi σ 3) + (1 : Int32)) from (iv_any ((ac_gi σ 3) + (1 : Int32))))
    refine at_aload_n C 0 dX6_mast_28 rfl ?_
    refine gf_X6_12 C dX6_mast_29 ?_
    refine at_dup C dX6_mast_32 rfl ?_
    refine gf_X6_59 C dX6_mast_33 ?_
    show AT E 36 [(0, .ref (e_q E 0))] [.int (ac_gi σ 0), .ref (e_q E 1)] (ac_si σ 3 ((ac_gi σ 3) + (1 : Int32)))
    refine at_iconst C (1 : Int32) dX6_mast_36 (by decide) ?_
    refine at_iadd C dX6_mast_37 ?_
    refine pf_X6_59 C dX6_mast_38 ?_
    have hJ39 := Inv.si (k := 0) hJ38 (iv_wk (iv_add f37 (iv_c (c := 1) (x := (1 : Int32)) (by decide)) (by decide) (by decide)) (by decide) (by decide) : iv 0 10 ((ac_gi σ 0) + (1 : Int32)))
    refine at_aload_n C 0 dX6_mast_41 rfl ?_
    refine gf_X6_12 C dX6_mast_42 ?_
    refine gf_X6_59 C dX6_mast_45 ?_
    show AT E 48 [(0, .ref (e_q E 0))] [.int ((ac_gi σ 0) + (1 : Int32))] (ac_si (ac_si σ 3 ((ac_gi σ 3) + (1 : Int32))) 0 ((ac_gi σ 0) + (1 : Int32)))
    refine at_iconst C (1 : Int32) dX6_mast_48 (by decide) ?_
    refine at_isub C dX6_mast_49 ?_
    exact hR _ _ _ _ dX6_mast_50 (Or.inr ⟨(by have t1 := iv_lt c36; have k0 : (10 : Int32).toInt = 10 := (by decide); omega), rfl, rfl, hJ39⟩)
  · have f40 : iv 10 10 (ac_gi σ 0) := (iv_ler (iv_c (c := 10) (x := (10 : Int32)) (by decide)) (show iv 0 10 (ac_gi σ 0) from hI.1 0) (Int32.not_lt.mp c36))
    refine at_bipush C (-4 : Int32) dX6_mast_12 (by decide) ?_
    exact hR _ _ _ _ dX6_mast_14 (Or.inl ⟨(by have t1 := iv_le (Int32.not_lt.mp c36); have k0 : (10 : Int32).toInt = 10 := (by decide); omega), rfl, rfl, hI⟩)
abbrev pc_X6_channels_0 (σ : SS) (x1 : Int32) : Prop := (¬ ((1 ≤ (x1).toInt ∧ (x1).toInt ≤ 6)))
abbrev pc_X6_channels_1 (σ : SS) (x1 : Int32) : Prop := ((1 ≤ (x1).toInt ∧ (x1).toInt ≤ 6))
abbrev po_X6_channels (σ : SS) (x1 : Int32) (r : Int32) (σ' : SS) : Prop := (pc_X6_channels_0 σ x1 ∧ r = (-2 : Int32) ∧ σ = σ' ∧ Inv σ') ∨ (pc_X6_channels_1 σ x1 ∧ r = (ac_gi σ 1) ∧ (ac_si (ac_si σ 1 x1) 3 ((ac_gi σ 3) + (1 : Int32))) = σ' ∧ Inv σ')
theorem pi_X6_channels {σ : SS} {x1 : Int32} {r : Int32} {u : SS} (h : po_X6_channels σ x1 r u) : Inv u := by
  rcases h with ⟨-, -, -, h⟩ | ⟨-, -, -, h⟩
  all_goals exact h
set_option maxHeartbeats 4000000 in
set_option maxRecDepth 100000 in
theorem ct_X6_channels (σ : SS) (x1 : Int32) (hI : Inv σ) : ConI yX6_channels cX6_channels 3 (some .int) 1 (some 0) [.int x1] σ ((po_X6_channels σ x1)) := by
  refine conI_of (by decide) (fun q => Nat.le_of_ble_eq_true rfl) (fun E C en hR => ?_)
  have hn2 : 2 < e_n E := by rw [en]; decide
  refine at_iload_n C 1 dX6_channels_0 rfl ?_
  refine at_iconst C (1 : Int32) dX6_channels_1 (by decide) ?_
  refine at_bipush C (6 : Int32) dX6_channels_2 (by decide) ?_
  refine at_Si C (As := [.int x1, .int (1 : Int32), .int (6 : Int32)]) (st := []) (ct_X6_within σ x1 (1 : Int32) (6 : Int32)) mb_X6_within ml_X6_66 rfl (by decide) rfl (Nat.le_of_ble_eq_true rfl) dX6_channels_4 ?_
  rintro _ _ ⟨rfl, ⟨rfl, c50⟩ | ⟨rfl, c50⟩⟩
  · have f52 : iv 1 6 x1 := (iv_of2 c50 (iv_c (c := 1) (x := (1 : Int32)) (by decide)) (iv_c (c := 6) (x := (6 : Int32)) (by decide)))
    refine at_if_ne C 13 dX6_channels_7 (by decide) (fun c53 => ?_) (fun c53 => absurd c53 (iv_xeq (iv_c (c := 1) (x := (1 : Int32)) (by decide)) (iv_c (c := 0) (x := (0 : Int32)) (by decide)) (by decide)))
    refine at_aload_n C 0 dX6_channels_13 rfl ?_
    refine gf_X6_12 C dX6_channels_14 ?_
    refine gf_X6_70 C dX6_channels_17 ?_
    refine at_istore_n C (lv' := [(2, .int (ac_gi σ 1)), (0, .ref (e_q E 0)), (1, .int x1)]) dX6_channels_20 hn2 rfl ?_
    refine at_aload_n C 1 dX6_channels_21 rfl ?_
    refine gf_X6_12 C dX6_channels_22 ?_
    refine at_iload_n C 2 dX6_channels_25 rfl ?_
    refine pf_X6_70 C dX6_channels_26 ?_
    have hJ54 := Inv.si (k := 1) hI (show iv 1 6 x1 from f52)
    refine at_aload_n C 1 dX6_channels_29 rfl ?_
    refine gf_X6_12 C dX6_channels_30 ?_
    refine at_dup C dX6_channels_33 rfl ?_
    refine gf_X6_63 C dX6_channels_34 ?_
    show AT E 37 [(2, .int (ac_gi σ 1)), (0, .ref (e_q E 0)), (1, .int x1)] [.int (ac_gi σ 3), .ref (e_q E 1)] (ac_si σ 1 x1)
    refine at_iconst C (1 : Int32) dX6_channels_37 (by decide) ?_
    refine at_iadd C dX6_channels_38 ?_
    refine pf_X6_63 C dX6_channels_39 ?_
    have hJ55 := Inv.si (k := 3) hJ54 (show iv (-2147483648) 2147483647 ((ac_gi σ 3) + (1 : Int32)) from (iv_any ((ac_gi σ 3) + (1 : Int32))))
    refine at_iload_n C 0 dX6_channels_42 rfl ?_
    exact hR _ _ _ _ dX6_channels_43 (Or.inr ⟨(by have := c50; have : (1 : Int32).toInt = 1 := (by decide); have : (6 : Int32).toInt = 6 := (by decide); omega), rfl, rfl, hJ55⟩)
  · refine at_if_ne C 13 dX6_channels_7 (by decide) (fun c56 => absurd (iv_xne (iv_c (c := 0) (x := (0 : Int32)) (by decide)) (iv_c (c := 0) (x := (0 : Int32)) (by decide))) c56) (fun c56 => ?_)
    refine at_bipush C (-2 : Int32) dX6_channels_10 (by decide) ?_
    exact hR _ _ _ _ dX6_channels_12 (Or.inl ⟨(by have := c50; have : (1 : Int32).toInt = 1 := (by decide); have : (6 : Int32).toInt = 6 := (by decide); omega), rfl, rfl, hI⟩)
abbrev pc_X6_pair_0 (σ : SS) (x1 : Int32) (x2 : Int32) (x3 : Int32) : Prop := (¬ ((0 ≤ (x1).toInt ∧ (x1).toInt < (ac_gi σ 0).toInt) ∧ (0 ≤ (x2).toInt ∧ (x2).toInt < (ac_gi σ 0).toInt) ∧ ((x1).toInt ≠ (x2).toInt) ∧ (0 ≤ (x3).toInt ∧ (x3).toInt ≤ 2)))
abbrev pc_X6_pair_1 (σ : SS) (x1 : Int32) (x2 : Int32) (x3 : Int32) : Prop := ((0 ≤ (x1).toInt ∧ (x1).toInt < (ac_gi σ 0).toInt) ∧ (0 ≤ (x2).toInt ∧ (x2).toInt < (ac_gi σ 0).toInt) ∧ ((x1).toInt ≠ (x2).toInt) ∧ (0 ≤ (x3).toInt ∧ (x3).toInt ≤ 2))
abbrev po_X6_pair (σ : SS) (x1 : Int32) (x2 : Int32) (x3 : Int32) (r : Int32) (σ' : SS) : Prop := (pc_X6_pair_0 σ x1 x2 x3 ∧ r = (-2 : Int32) ∧ σ = σ' ∧ Inv σ') ∨ (pc_X6_pair_1 σ x1 x2 x3 ∧ r = (ac_ga σ 9 (((x1 * (10 : Int32)) + x2)).toNatClampNeg) ∧ (ac_si (ac_sa (ac_sa σ 9 (upd (ac_ga σ 9) (((x1 * (10 : Int32)) + x2)).toNatClampNeg x3)) 9 (upd (ac_ga (ac_sa σ 9 (upd (ac_ga σ 9) (((x1 * (10 : Int32)) + x2)).toNatClampNeg x3)) 9) (((x2 * (10 : Int32)) + x1)).toNatClampNeg x3)) 3 ((ac_gi σ 3) + (1 : Int32))) = σ' ∧ Inv σ')
theorem pi_X6_pair {σ : SS} {x1 : Int32} {x2 : Int32} {x3 : Int32} {r : Int32} {u : SS} (h : po_X6_pair σ x1 x2 x3 r u) : Inv u := by
  rcases h with ⟨-, -, -, h⟩ | ⟨-, -, -, h⟩
  all_goals exact h
set_option maxHeartbeats 4000000 in
set_option maxRecDepth 100000 in
theorem ct_X6_pair (σ : SS) (x1 : Int32) (x2 : Int32) (x3 : Int32) (hI : Inv σ) : ConI yX6_pair cX6_pair 5 (some .int) 2 (some 0) [.int x1, .int x2, .int x3] σ ((po_X6_pair σ x1 x2 x3)) := by
  refine conI_of (by decide) (fun q => Nat.le_of_ble_eq_true rfl) (fun E C en hR => ?_)
  have hn4 : 4 < e_n E := by rw [en]; decide
  refine at_aload_n C 0 dX6_pair_0 rfl ?_
  refine gf_X6_12 C dX6_pair_1 ?_
  refine at_iload_n C 1 dX6_pair_4 rfl ?_
  refine at_Vi C (As := [.int x1]) (st := []) (b := 1) (ci := 0) (ct_X0_isMast σ x1) mb_X0_isMast ml_X6_73 rfl rfl rfl (by decide) rfl (Nat.le_of_ble_eq_true rfl) dX6_pair_5 ?_
  rintro _ _ ⟨rfl, ⟨rfl, c176⟩ | ⟨rfl, c176⟩⟩
  · have f178 : iv 0 9 x1 := (iv_of3 c176 (show iv 0 10 (ac_gi σ 0) from hI.1 0))
    refine at_if_eq C 36 dX6_pair_8 (by decide) (fun c179 => absurd c179 (iv_xeq (iv_c (c := 1) (x := (1 : Int32)) (by decide)) (iv_c (c := 0) (x := (0 : Int32)) (by decide)) (by decide))) (fun c179 => ?_)
    refine at_aload_n C 0 dX6_pair_11 rfl ?_
    refine gf_X6_12 C dX6_pair_12 ?_
    refine at_iload_n C 2 dX6_pair_15 rfl ?_
    refine at_Vi C (As := [.int x2]) (st := []) (b := 1) (ci := 0) (ct_X0_isMast σ x2) mb_X0_isMast ml_X6_73 rfl rfl rfl (by decide) rfl (Nat.le_of_ble_eq_true rfl) dX6_pair_16 ?_
    rintro _ _ ⟨rfl, ⟨rfl, c180⟩ | ⟨rfl, c180⟩⟩
    · have f182 : iv 0 9 x2 := (iv_of3 c180 (show iv 0 10 (ac_gi σ 0) from hI.1 0))
      refine at_if_eq C 36 dX6_pair_19 (by decide) (fun c183 => absurd c183 (iv_xeq (iv_c (c := 1) (x := (1 : Int32)) (by decide)) (iv_c (c := 0) (x := (0 : Int32)) (by decide)) (by decide))) (fun c183 => ?_)
      refine at_iload_n C 1 dX6_pair_22 rfl ?_
      refine at_iload_n C 2 dX6_pair_23 rfl ?_
      refine at_icmp_eq C 36 dX6_pair_24 (by decide) (fun c184 => ?_) (fun c184 => ?_)
      · refine at_bipush C (-2 : Int32) dX6_pair_36 (by decide) ?_
        exact hR _ _ _ _ dX6_pair_38 (Or.inl ⟨(by have t1 := congrArg Int32.toInt c184; have := c176; have := c180; omega), rfl, rfl, hI⟩)
      · refine at_iload_n C 3 dX6_pair_27 rfl ?_
        refine at_iconst C (0 : Int32) dX6_pair_28 (by decide) ?_
        refine at_iconst C (2 : Int32) dX6_pair_29 (by decide) ?_
        refine at_Si C (As := [.int x3, .int (0 : Int32), .int (2 : Int32)]) (st := []) (ct_X6_within σ x3 (0 : Int32) (2 : Int32)) mb_X6_within ml_X6_66 rfl (by decide) rfl (Nat.le_of_ble_eq_true rfl) dX6_pair_30 ?_
        rintro _ _ ⟨rfl, ⟨rfl, c185⟩ | ⟨rfl, c185⟩⟩
        · have f187 : iv 0 2 x3 := (iv_of2 c185 (iv_c (c := 0) (x := (0 : Int32)) (by decide)) (iv_c (c := 2) (x := (2 : Int32)) (by decide)))
          refine at_if_ne C 39 dX6_pair_33 (by decide) (fun c188 => ?_) (fun c188 => absurd c188 (iv_xeq (iv_c (c := 1) (x := (1 : Int32)) (by decide)) (iv_c (c := 0) (x := (0 : Int32)) (by decide)) (by decide)))
          refine at_aload_n C 0 dX6_pair_39 rfl ?_
          refine gf_X6_12 C dX6_pair_40 ?_
          refine at_iload_n C 1 dX6_pair_43 rfl ?_
          refine at_iload_n C 2 dX6_pair_44 rfl ?_
          refine at_Vi C (As := [.int x1, .int x2]) (st := []) (b := 1) (ci := 0) (ct_X0_pairOf σ x1 x2 hI) mb_X0_pairOf ml_X6_77 rfl rfl rfl (by decide) rfl (Nat.le_of_ble_eq_true rfl) dX6_pair_45 ?_
          rintro _ _ (⟨c189, rfl, rfl⟩ | ⟨c191, rfl, rfl⟩)
          · exact absurd ⟨c176, c180⟩ c189
          · show AT E 48 [(0, .ref (e_q E 0)), (1, .int x1), (2, .int x2), (3, .int x3)] [.int (ac_ga σ 9 (((x1 * (10 : Int32)) + x2)).toNatClampNeg)] σ
            refine at_istore C (lv' := [(4, .int (ac_ga σ 9 (((x1 * (10 : Int32)) + x2)).toNatClampNeg)), (0, .ref (e_q E 0)), (1, .int x1), (2, .int x2), (3, .int x3)]) dX6_pair_48 hn4 rfl ?_
            refine at_aload_n C 1 dX6_pair_50 rfl ?_
            refine gf_X6_12 C dX6_pair_51 ?_
            refine at_iload_n C 2 dX6_pair_54 rfl ?_
            refine at_iload_n C 3 dX6_pair_55 rfl ?_
            refine at_iload_n C 4 dX6_pair_56 rfl ?_
            refine at_Vv C (As := [.int x1, .int x2, .int x3]) (st := []) (b := 1) (ci := 0) (ct_X0_setPair σ x1 x2 x3 hI (show iv 0 2 x3 from f187)) mb_X0_setPair ml_X6_81 rfl rfl rfl (by decide) rfl (Nat.le_of_ble_eq_true rfl) dX6_pair_57 ?_
            rintro _ (⟨c193, rfl, hJ194⟩ | ⟨c195, rfl, hJ196⟩)
            · exact absurd ⟨c176, c180⟩ c193
            · show AT E 60 [(4, .int (ac_ga σ 9 (((x1 * (10 : Int32)) + x2)).toNatClampNeg)), (0, .ref (e_q E 0)), (1, .int x1), (2, .int x2), (3, .int x3)] [] (ac_sa (ac_sa σ 9 (upd (ac_ga σ 9) (((x1 * (10 : Int32)) + x2)).toNatClampNeg x3)) 9 (upd (ac_ga (ac_sa σ 9 (upd (ac_ga σ 9) (((x1 * (10 : Int32)) + x2)).toNatClampNeg x3)) 9) (((x2 * (10 : Int32)) + x1)).toNatClampNeg x3))
              refine at_aload_n C 1 dX6_pair_60 rfl ?_
              refine gf_X6_12 C dX6_pair_61 ?_
              refine at_dup C dX6_pair_64 rfl ?_
              refine gf_X6_63 C dX6_pair_65 ?_
              show AT E 68 [(4, .int (ac_ga σ 9 (((x1 * (10 : Int32)) + x2)).toNatClampNeg)), (0, .ref (e_q E 0)), (1, .int x1), (2, .int x2), (3, .int x3)] [.int (ac_gi σ 3), .ref (e_q E 1)] (ac_sa (ac_sa σ 9 (upd (ac_ga σ 9) (((x1 * (10 : Int32)) + x2)).toNatClampNeg x3)) 9 (upd (ac_ga (ac_sa σ 9 (upd (ac_ga σ 9) (((x1 * (10 : Int32)) + x2)).toNatClampNeg x3)) 9) (((x2 * (10 : Int32)) + x1)).toNatClampNeg x3))
              refine at_iconst C (1 : Int32) dX6_pair_68 (by decide) ?_
              refine at_iadd C dX6_pair_69 ?_
              refine pf_X6_63 C dX6_pair_70 ?_
              have hJ197 := Inv.si (k := 3) hJ196 (show iv (-2147483648) 2147483647 ((ac_gi σ 3) + (1 : Int32)) from (iv_any ((ac_gi σ 3) + (1 : Int32))))
              refine at_iload C 0 dX6_pair_73 rfl ?_
              exact hR _ _ _ _ dX6_pair_75 (Or.inr ⟨(by have t1 := iv_ne c184; have := c176; have := c180; have := c185; have : (0 : Int32).toInt = 0 := (by decide); have : (2 : Int32).toInt = 2 := (by decide); have := c191; have := c195; omega), rfl, rfl, hJ197⟩)
        · refine at_if_ne C 39 dX6_pair_33 (by decide) (fun c198 => absurd (iv_xne (iv_c (c := 0) (x := (0 : Int32)) (by decide)) (iv_c (c := 0) (x := (0 : Int32)) (by decide))) c198) (fun c198 => ?_)
          refine at_bipush C (-2 : Int32) dX6_pair_36 (by decide) ?_
          exact hR _ _ _ _ dX6_pair_38 (Or.inl ⟨(by have t1 := iv_ne c184; have := c176; have := c180; have := c185; have : (0 : Int32).toInt = 0 := (by decide); have : (2 : Int32).toInt = 2 := (by decide); omega), rfl, rfl, hI⟩)
    · refine at_if_eq C 36 dX6_pair_19 (by decide) (fun c199 => ?_) (fun c199 => absurd (iv_xne (iv_c (c := 0) (x := (0 : Int32)) (by decide)) (iv_c (c := 0) (x := (0 : Int32)) (by decide))) c199)
      refine at_bipush C (-2 : Int32) dX6_pair_36 (by decide) ?_
      exact hR _ _ _ _ dX6_pair_38 (Or.inl ⟨(by have := c176; have := c180; omega), rfl, rfl, hI⟩)
  · refine at_if_eq C 36 dX6_pair_8 (by decide) (fun c200 => ?_) (fun c200 => absurd (iv_xne (iv_c (c := 0) (x := (0 : Int32)) (by decide)) (iv_c (c := 0) (x := (0 : Int32)) (by decide))) c200)
    refine at_bipush C (-2 : Int32) dX6_pair_36 (by decide) ?_
    exact hR _ _ _ _ dX6_pair_38 (Or.inl ⟨(by have := c176; omega), rfl, rfl, hI⟩)
abbrev pc_X6_bar_0 (σ : SS) (x1 : Int32) (x2 : Int32) : Prop := (¬ ((0 ≤ (x1).toInt ∧ (x1).toInt < (ac_gi σ 0).toInt) ∧ (0 ≤ (x2).toInt ∧ (x2).toInt ≤ (((1 : Int32) <<< (ac_gi σ 1 &&& 31)) - (1 : Int32)).toInt)))
abbrev pc_X6_bar_1 (σ : SS) (x1 : Int32) (x2 : Int32) : Prop := ((0 ≤ (x1).toInt ∧ (x1).toInt < (ac_gi σ 0).toInt) ∧ (0 ≤ (x2).toInt ∧ (x2).toInt ≤ (((1 : Int32) <<< (ac_gi σ 1 &&& 31)) - (1 : Int32)).toInt))
abbrev po_X6_bar (σ : SS) (x1 : Int32) (x2 : Int32) (r : Int32) (σ' : SS) : Prop := (pc_X6_bar_0 σ x1 x2 ∧ r = (-2 : Int32) ∧ σ = σ' ∧ Inv σ') ∨ (pc_X6_bar_1 σ x1 x2 ∧ r = (ac_ga σ 8 (x1).toNatClampNeg) ∧ (ac_si (ac_sa σ 8 (upd (ac_ga σ 8) (x1).toNatClampNeg x2)) 3 ((ac_gi σ 3) + (1 : Int32))) = σ' ∧ Inv σ')
theorem pi_X6_bar {σ : SS} {x1 : Int32} {x2 : Int32} {r : Int32} {u : SS} (h : po_X6_bar σ x1 x2 r u) : Inv u := by
  rcases h with ⟨-, -, -, h⟩ | ⟨-, -, -, h⟩
  all_goals exact h
set_option maxHeartbeats 4000000 in
set_option maxRecDepth 100000 in
theorem ct_X6_bar (σ : SS) (x1 : Int32) (x2 : Int32) (hI : Inv σ) : ConI yX6_bar cX6_bar 4 (some .int) 1 (some 0) [.int x1, .int x2] σ ((po_X6_bar σ x1 x2)) := by
  refine conI_of (by decide) (fun q => Nat.le_of_ble_eq_true rfl) (fun E C en hR => ?_)
  have hn3 : 3 < e_n E := by rw [en]; decide
  refine at_aload_n C 0 dX6_bar_0 rfl ?_
  refine gf_X6_12 C dX6_bar_1 ?_
  refine at_iload_n C 1 dX6_bar_4 rfl ?_
  refine at_Vi C (As := [.int x1]) (st := []) (b := 1) (ci := 0) (ct_X0_isMast σ x1) mb_X0_isMast ml_X6_73 rfl rfl rfl (by decide) rfl (Nat.le_of_ble_eq_true rfl) dX6_bar_5 ?_
  rintro _ _ ⟨rfl, ⟨rfl, c99⟩ | ⟨rfl, c99⟩⟩
  · have f101 : iv 0 9 x1 := (iv_of3 c99 (show iv 0 10 (ac_gi σ 0) from hI.1 0))
    refine at_if_eq C 26 dX6_bar_8 (by decide) (fun c102 => absurd c102 (iv_xeq (iv_c (c := 1) (x := (1 : Int32)) (by decide)) (iv_c (c := 0) (x := (0 : Int32)) (by decide)) (by decide))) (fun c102 => ?_)
    refine at_iload_n C 2 dX6_bar_11 rfl ?_
    refine at_iconst C (0 : Int32) dX6_bar_12 (by decide) ?_
    refine at_aload_n C 0 dX6_bar_13 rfl ?_
    refine gf_X6_12 C dX6_bar_14 ?_
    refine at_Vi C (As := []) (st := [.int (0 : Int32), .int x2]) (b := 1) (ci := 0) (ct_X0_allChannels σ) mb_X0_allChannels ml_X6_85 rfl rfl rfl (by decide) rfl (Nat.le_of_ble_eq_true rfl) dX6_bar_17 ?_
    rintro _ _ ⟨rfl, rfl⟩
    refine at_Si C (As := [.int x2, .int (0 : Int32), .int (((1 : Int32) <<< ((ac_gi σ 1) &&& 31)) - (1 : Int32))]) (st := []) (ct_X6_within σ x2 (0 : Int32) (((1 : Int32) <<< ((ac_gi σ 1) &&& 31)) - (1 : Int32))) mb_X6_within ml_X6_66 rfl (by decide) rfl (Nat.le_of_ble_eq_true rfl) dX6_bar_20 ?_
    rintro _ _ ⟨rfl, ⟨rfl, c105⟩ | ⟨rfl, c105⟩⟩
    · have f107 : iv 0 63 x2 := (iv_of2 c105 (iv_c (c := 0) (x := (0 : Int32)) (by decide)) (iv_sub (iv_shl1 (a := 1) (b := 6) (show iv 1 6 (ac_gi σ 1) from hI.1 1) (by decide)) (iv_c (c := 1) (x := (1 : Int32)) (by decide)) (by decide) (by decide)))
      refine at_if_ne C 29 dX6_bar_23 (by decide) (fun c108 => ?_) (fun c108 => absurd c108 (iv_xeq (iv_c (c := 1) (x := (1 : Int32)) (by decide)) (iv_c (c := 0) (x := (0 : Int32)) (by decide)) (by decide)))
      refine at_aload_n C 0 dX6_bar_29 rfl ?_
      refine gf_X6_12 C dX6_bar_30 ?_
      refine gf_X6_89 C dX6_bar_33 ?_
      refine at_iload_n C 1 dX6_bar_36 rfl ?_
      refine at_iald C (c := 8) rfl (iv_in (n := 10) f101 (by decide) (by decide)) dX6_bar_37 ?_
      refine at_istore_n C (lv' := [(3, .int (ac_ga σ 8 (x1).toNatClampNeg)), (0, .ref (e_q E 0)), (1, .int x1), (2, .int x2)]) dX6_bar_38 hn3 rfl ?_
      refine at_aload_n C 1 dX6_bar_39 rfl ?_
      refine gf_X6_12 C dX6_bar_40 ?_
      refine gf_X6_89 C dX6_bar_43 ?_
      refine at_iload_n C 2 dX6_bar_46 rfl ?_
      refine at_iload_n C 3 dX6_bar_47 rfl ?_
      refine at_iast C (c := 8) rfl (fun f => ac_ast_8 _ _ _ _ f) (iv_in (n := 10) f101 (by decide) (by decide)) dX6_bar_48 ?_
      have hJ109 := Inv.sa (c := 8) (i := (x1).toNatClampNeg) hI (iv_wk f107 (by decide) (by decide) : iv (-2147483648) 2147483647 x2)
      refine at_aload_n C 1 dX6_bar_49 rfl ?_
      refine gf_X6_12 C dX6_bar_50 ?_
      refine at_dup C dX6_bar_53 rfl ?_
      refine gf_X6_63 C dX6_bar_54 ?_
      show AT E 57 [(3, .int (ac_ga σ 8 (x1).toNatClampNeg)), (0, .ref (e_q E 0)), (1, .int x1), (2, .int x2)] [.int (ac_gi σ 3), .ref (e_q E 1)] (ac_sa σ 8 (upd (ac_ga σ 8) (x1).toNatClampNeg x2))
      refine at_iconst C (1 : Int32) dX6_bar_57 (by decide) ?_
      refine at_iadd C dX6_bar_58 ?_
      refine pf_X6_63 C dX6_bar_59 ?_
      have hJ110 := Inv.si (k := 3) hJ109 (show iv (-2147483648) 2147483647 ((ac_gi σ 3) + (1 : Int32)) from (iv_any ((ac_gi σ 3) + (1 : Int32))))
      refine at_iload_n C 0 dX6_bar_62 rfl ?_
      exact hR _ _ _ _ dX6_bar_63 (Or.inr ⟨(by have := c99; have := c105; have : (0 : Int32).toInt = 0 := (by decide); omega), rfl, rfl, hJ110⟩)
    · refine at_if_ne C 29 dX6_bar_23 (by decide) (fun c111 => absurd (iv_xne (iv_c (c := 0) (x := (0 : Int32)) (by decide)) (iv_c (c := 0) (x := (0 : Int32)) (by decide))) c111) (fun c111 => ?_)
      refine at_bipush C (-2 : Int32) dX6_bar_26 (by decide) ?_
      exact hR _ _ _ _ dX6_bar_28 (Or.inl ⟨(by have := c99; have := c105; have : (0 : Int32).toInt = 0 := (by decide); omega), rfl, rfl, hI⟩)
  · refine at_if_eq C 26 dX6_bar_8 (by decide) (fun c112 => ?_) (fun c112 => absurd (iv_xne (iv_c (c := 0) (x := (0 : Int32)) (by decide)) (iv_c (c := 0) (x := (0 : Int32)) (by decide))) c112)
    refine at_bipush C (-2 : Int32) dX6_bar_26 (by decide) ?_
    exact hR _ _ _ _ dX6_bar_28 (Or.inl ⟨(by have := c99; omega), rfl, rfl, hI⟩)
abbrev pc_X6_limit_0 (σ : SS) (x1 : Int32) : Prop := (¬ ((1 ≤ (x1).toInt ∧ (x1).toInt ≤ 2000)))
abbrev pc_X6_limit_1 (σ : SS) (x1 : Int32) : Prop := ((1 ≤ (x1).toInt ∧ (x1).toInt ≤ 2000))
abbrev po_X6_limit (σ : SS) (x1 : Int32) (r : Int32) (σ' : SS) : Prop := (pc_X6_limit_0 σ x1 ∧ r = (-2 : Int32) ∧ σ = σ' ∧ Inv σ') ∨ (pc_X6_limit_1 σ x1 ∧ r = (ac_gi σ 2) ∧ (ac_si (ac_si σ 2 x1) 3 ((ac_gi σ 3) + (1 : Int32))) = σ' ∧ Inv σ')
theorem pi_X6_limit {σ : SS} {x1 : Int32} {r : Int32} {u : SS} (h : po_X6_limit σ x1 r u) : Inv u := by
  rcases h with ⟨-, -, -, h⟩ | ⟨-, -, -, h⟩
  all_goals exact h
set_option maxHeartbeats 4000000 in
set_option maxRecDepth 100000 in
theorem ct_X6_limit (σ : SS) (x1 : Int32) (hI : Inv σ) : ConI yX6_limit cX6_limit 3 (some .int) 1 (some 0) [.int x1] σ ((po_X6_limit σ x1)) := by
  refine conI_of (by decide) (fun q => Nat.le_of_ble_eq_true rfl) (fun E C en hR => ?_)
  have hn2 : 2 < e_n E := by rw [en]; decide
  refine at_iload_n C 1 dX6_limit_0 rfl ?_
  refine at_iconst C (1 : Int32) dX6_limit_1 (by decide) ?_
  refine at_sipush C (2000 : Int32) dX6_limit_2 (by decide) ?_
  refine at_Si C (As := [.int x1, .int (1 : Int32), .int (2000 : Int32)]) (st := []) (ct_X6_within σ x1 (1 : Int32) (2000 : Int32)) mb_X6_within ml_X6_66 rfl (by decide) rfl (Nat.le_of_ble_eq_true rfl) dX6_limit_5 ?_
  rintro _ _ ⟨rfl, ⟨rfl, c50⟩ | ⟨rfl, c50⟩⟩
  · have f52 : iv 1 2000 x1 := (iv_of2 c50 (iv_c (c := 1) (x := (1 : Int32)) (by decide)) (iv_c (c := 2000) (x := (2000 : Int32)) (by decide)))
    refine at_if_ne C 14 dX6_limit_8 (by decide) (fun c53 => ?_) (fun c53 => absurd c53 (iv_xeq (iv_c (c := 1) (x := (1 : Int32)) (by decide)) (iv_c (c := 0) (x := (0 : Int32)) (by decide)) (by decide)))
    refine at_aload_n C 0 dX6_limit_14 rfl ?_
    refine gf_X6_12 C dX6_limit_15 ?_
    refine gf_X6_92 C dX6_limit_18 ?_
    refine at_istore_n C (lv' := [(2, .int (ac_gi σ 2)), (0, .ref (e_q E 0)), (1, .int x1)]) dX6_limit_21 hn2 rfl ?_
    refine at_aload_n C 1 dX6_limit_22 rfl ?_
    refine gf_X6_12 C dX6_limit_23 ?_
    refine at_iload_n C 2 dX6_limit_26 rfl ?_
    refine pf_X6_92 C dX6_limit_27 ?_
    have hJ54 := Inv.si (k := 2) hI (show iv 1 2000 x1 from f52)
    refine at_aload_n C 1 dX6_limit_30 rfl ?_
    refine gf_X6_12 C dX6_limit_31 ?_
    refine at_dup C dX6_limit_34 rfl ?_
    refine gf_X6_63 C dX6_limit_35 ?_
    show AT E 38 [(2, .int (ac_gi σ 2)), (0, .ref (e_q E 0)), (1, .int x1)] [.int (ac_gi σ 3), .ref (e_q E 1)] (ac_si σ 2 x1)
    refine at_iconst C (1 : Int32) dX6_limit_38 (by decide) ?_
    refine at_iadd C dX6_limit_39 ?_
    refine pf_X6_63 C dX6_limit_40 ?_
    have hJ55 := Inv.si (k := 3) hJ54 (show iv (-2147483648) 2147483647 ((ac_gi σ 3) + (1 : Int32)) from (iv_any ((ac_gi σ 3) + (1 : Int32))))
    refine at_iload_n C 0 dX6_limit_43 rfl ?_
    exact hR _ _ _ _ dX6_limit_44 (Or.inr ⟨(by have := c50; have : (1 : Int32).toInt = 1 := (by decide); have : (2000 : Int32).toInt = 2000 := (by decide); omega), rfl, rfl, hJ55⟩)
  · refine at_if_ne C 14 dX6_limit_8 (by decide) (fun c56 => absurd (iv_xne (iv_c (c := 0) (x := (0 : Int32)) (by decide)) (iv_c (c := 0) (x := (0 : Int32)) (by decide))) c56) (fun c56 => ?_)
    refine at_bipush C (-2 : Int32) dX6_limit_11 (by decide) ?_
    exact hR _ _ _ _ dX6_limit_13 (Or.inl ⟨(by have := c50; have : (1 : Int32).toInt = 1 := (by decide); have : (2000 : Int32).toInt = 2000 := (by decide); omega), rfl, rfl, hI⟩)
abbrev pc_X6_old_0 (σ : SS) (x1 : Int32) (x2 : Int32) (x3 : Int32) : Prop := (¬ ((0 ≤ (x1).toInt ∧ (x1).toInt < (ac_gi σ 0).toInt) ∧ (0 ≤ (x2).toInt ∧ (x2).toInt ≤ 1000) ∧ (1 ≤ (x3).toInt ∧ (x3).toInt ≤ 10)))
abbrev pc_X6_old_1 (σ : SS) (x1 : Int32) (x2 : Int32) (x3 : Int32) : Prop := ((0 ≤ (x1).toInt ∧ (x1).toInt < (ac_gi σ 0).toInt) ∧ (0 ≤ (x2).toInt ∧ (x2).toInt ≤ 1000) ∧ (1 ≤ (x3).toInt ∧ (x3).toInt ≤ 10)) ∧ (¬ ((ac_gi σ 4 >>> (x1 &&& 31)) &&& 1) = 0)
abbrev pc_X6_old_2 (σ : SS) (x1 : Int32) (x2 : Int32) (x3 : Int32) : Prop := ((0 ≤ (x1).toInt ∧ (x1).toInt < (ac_gi σ 0).toInt) ∧ (0 ≤ (x2).toInt ∧ (x2).toInt ≤ 1000) ∧ (1 ≤ (x3).toInt ∧ (x3).toInt ≤ 10)) ∧ (((ac_gi σ 4 >>> (x1 &&& 31)) &&& 1) = 0)
abbrev po_X6_old (σ : SS) (x1 : Int32) (x2 : Int32) (x3 : Int32) (r : Int32) (σ' : SS) : Prop := (pc_X6_old_0 σ x1 x2 x3 ∧ r = (-2 : Int32) ∧ σ = σ' ∧ Inv σ') ∨ (pc_X6_old_1 σ x1 x2 x3 ∧ r = (-3 : Int32) ∧ σ = σ' ∧ Inv σ') ∨ (pc_X6_old_2 σ x1 x2 x3 ∧ r = (1 : Int32) ∧ (ac_sa (ac_sa (ac_si σ 4 ((ac_gi σ 4) ||| ((1 : Int32) <<< (x1 &&& 31)))) 17 (upd (ac_ga (ac_si σ 4 ((ac_gi σ 4) ||| ((1 : Int32) <<< (x1 &&& 31)))) 17) (x1).toNatClampNeg x2)) 18 (upd (ac_ga (ac_sa (ac_si σ 4 ((ac_gi σ 4) ||| ((1 : Int32) <<< (x1 &&& 31)))) 17 (upd (ac_ga (ac_si σ 4 ((ac_gi σ 4) ||| ((1 : Int32) <<< (x1 &&& 31)))) 17) (x1).toNatClampNeg x2)) 18) (x1).toNatClampNeg x3)) = σ' ∧ Inv σ')
theorem pi_X6_old {σ : SS} {x1 : Int32} {x2 : Int32} {x3 : Int32} {r : Int32} {u : SS} (h : po_X6_old σ x1 x2 x3 r u) : Inv u := by
  rcases h with ⟨-, -, -, h⟩ | ⟨-, -, -, h⟩ | ⟨-, -, -, h⟩
  all_goals exact h
set_option maxHeartbeats 4000000 in
set_option maxRecDepth 100000 in
theorem ct_X6_old (σ : SS) (x1 : Int32) (x2 : Int32) (x3 : Int32) (hI : Inv σ) : ConI yX6_old cX6_old 4 (some .int) 2 (some 0) [.int x1, .int x2, .int x3] σ ((po_X6_old σ x1 x2 x3)) := by
  refine conI_of (by decide) (fun q => Nat.le_of_ble_eq_true rfl) (fun E C en hR => ?_)
  refine at_aload_n C 0 dX6_old_0 rfl ?_
  refine gf_X6_12 C dX6_old_1 ?_
  refine at_iload_n C 1 dX6_old_4 rfl ?_
  refine at_Vi C (As := [.int x1]) (st := []) (b := 1) (ci := 0) (ct_X0_isMast σ x1) mb_X0_isMast ml_X6_73 rfl rfl rfl (by decide) rfl (Nat.le_of_ble_eq_true rfl) dX6_old_5 ?_
  rintro _ _ ⟨rfl, ⟨rfl, c162⟩ | ⟨rfl, c162⟩⟩
  · have f164 : iv 0 9 x1 := (iv_of3 c162 (show iv 0 10 (ac_gi σ 0) from hI.1 0))
    refine at_if_eq C 32 dX6_old_8 (by decide) (fun c165 => absurd c165 (iv_xeq (iv_c (c := 1) (x := (1 : Int32)) (by decide)) (iv_c (c := 0) (x := (0 : Int32)) (by decide)) (by decide))) (fun c165 => ?_)
    refine at_iload_n C 2 dX6_old_11 rfl ?_
    refine at_iconst C (0 : Int32) dX6_old_12 (by decide) ?_
    refine at_sipush C (1000 : Int32) dX6_old_13 (by decide) ?_
    refine at_Si C (As := [.int x2, .int (0 : Int32), .int (1000 : Int32)]) (st := []) (ct_X6_within σ x2 (0 : Int32) (1000 : Int32)) mb_X6_within ml_X6_66 rfl (by decide) rfl (Nat.le_of_ble_eq_true rfl) dX6_old_16 ?_
    rintro _ _ ⟨rfl, ⟨rfl, c166⟩ | ⟨rfl, c166⟩⟩
    · have f168 : iv 0 1000 x2 := (iv_of2 c166 (iv_c (c := 0) (x := (0 : Int32)) (by decide)) (iv_c (c := 1000) (x := (1000 : Int32)) (by decide)))
      refine at_if_eq C 32 dX6_old_19 (by decide) (fun c169 => absurd c169 (iv_xeq (iv_c (c := 1) (x := (1 : Int32)) (by decide)) (iv_c (c := 0) (x := (0 : Int32)) (by decide)) (by decide))) (fun c169 => ?_)
      refine at_iload_n C 3 dX6_old_22 rfl ?_
      refine at_iconst C (1 : Int32) dX6_old_23 (by decide) ?_
      refine at_bipush C (10 : Int32) dX6_old_24 (by decide) ?_
      refine at_Si C (As := [.int x3, .int (1 : Int32), .int (10 : Int32)]) (st := []) (ct_X6_within σ x3 (1 : Int32) (10 : Int32)) mb_X6_within ml_X6_66 rfl (by decide) rfl (Nat.le_of_ble_eq_true rfl) dX6_old_26 ?_
      rintro _ _ ⟨rfl, ⟨rfl, c170⟩ | ⟨rfl, c170⟩⟩
      · have f172 : iv 1 10 x3 := (iv_of2 c170 (iv_c (c := 1) (x := (1 : Int32)) (by decide)) (iv_c (c := 10) (x := (10 : Int32)) (by decide)))
        refine at_if_ne C 35 dX6_old_29 (by decide) (fun c173 => ?_) (fun c173 => absurd c173 (iv_xeq (iv_c (c := 1) (x := (1 : Int32)) (by decide)) (iv_c (c := 0) (x := (0 : Int32)) (by decide)) (by decide)))
        refine at_aload_n C 0 dX6_old_35 rfl ?_
        refine gf_X6_37 C dX6_old_36 ?_
        refine gf_X6_121 C dX6_old_39 ?_
        refine at_iload_n C 1 dX6_old_42 rfl ?_
        refine at_Si C (As := [.int (ac_gi σ 4), .int x1]) (st := []) (ct_X6_has σ (ac_gi σ 4) x1) mb_X6_has ml_X6_105 rfl (by decide) rfl (Nat.le_of_ble_eq_true rfl) dX6_old_43 ?_
        rintro _ _ ⟨rfl, ⟨rfl, c174⟩ | ⟨rfl, c174⟩⟩
        · refine at_if_eq C 52 dX6_old_46 (by decide) (fun c176 => absurd c176 (iv_xeq (iv_c (c := 1) (x := (1 : Int32)) (by decide)) (iv_c (c := 0) (x := (0 : Int32)) (by decide)) (by decide))) (fun c176 => ?_)
          refine at_bipush C (-3 : Int32) dX6_old_49 (by decide) ?_
          exact hR _ _ _ _ dX6_old_51 (Or.inr (Or.inl ⟨⟨(by have := c162; have := c166; have := c170; have := c174; have : (0 : Int32).toInt = 0 := (by decide); have : (1 : Int32).toInt = 1 := (by decide); have : (10 : Int32).toInt = 10 := (by decide); have : (1000 : Int32).toInt = 1000 := (by decide); omega), c174⟩, rfl, rfl, hI⟩))
        · refine at_if_eq C 52 dX6_old_46 (by decide) (fun c177 => ?_) (fun c177 => absurd (iv_xne (iv_c (c := 0) (x := (0 : Int32)) (by decide)) (iv_c (c := 0) (x := (0 : Int32)) (by decide))) c177)
          refine at_aload_n C 0 dX6_old_52 rfl ?_
          refine gf_X6_37 C dX6_old_53 ?_
          refine at_iload_n C 1 dX6_old_56 rfl ?_
          refine at_iload_n C 2 dX6_old_57 rfl ?_
          refine at_iload_n C 3 dX6_old_58 rfl ?_
          refine at_Vv C (As := [.int x1, .int x2, .int x3]) (st := []) (b := 4) (ci := 1) (ct_X1_addStation σ x1 x2 x3 hI) mb_X1_addStation ml_X6_124 rfl rfl rfl (by decide) rfl (Nat.le_of_ble_eq_true rfl) dX6_old_59 ?_
          rintro _ (⟨c178, rfl, hJ179⟩ | ⟨c180, rfl, hJ181⟩)
          · exact absurd c162 c178
          · show AT E 62 [(0, .ref (e_q E 0)), (1, .int x1), (2, .int x2), (3, .int x3)] [] (ac_sa (ac_sa (ac_si σ 4 ((ac_gi σ 4) ||| ((1 : Int32) <<< (x1 &&& 31)))) 17 (upd (ac_ga (ac_si σ 4 ((ac_gi σ 4) ||| ((1 : Int32) <<< (x1 &&& 31)))) 17) (x1).toNatClampNeg x2)) 18 (upd (ac_ga (ac_sa (ac_si σ 4 ((ac_gi σ 4) ||| ((1 : Int32) <<< (x1 &&& 31)))) 17 (upd (ac_ga (ac_si σ 4 ((ac_gi σ 4) ||| ((1 : Int32) <<< (x1 &&& 31)))) 17) (x1).toNatClampNeg x2)) 18) (x1).toNatClampNeg x3))
            refine at_iconst C (1 : Int32) dX6_old_62 (by decide) ?_
            exact hR _ _ _ _ dX6_old_63 (Or.inr (Or.inr ⟨⟨(by have := c162; have := c166; have := c170; have := c174; have : (0 : Int32).toInt = 0 := (by decide); have : (1 : Int32).toInt = 1 := (by decide); have : (10 : Int32).toInt = 10 := (by decide); have : (1000 : Int32).toInt = 1000 := (by decide); have := c180; omega), (Classical.not_not.mp c174)⟩, rfl, rfl, hJ181⟩))
      · refine at_if_ne C 35 dX6_old_29 (by decide) (fun c182 => absurd (iv_xne (iv_c (c := 0) (x := (0 : Int32)) (by decide)) (iv_c (c := 0) (x := (0 : Int32)) (by decide))) c182) (fun c182 => ?_)
        refine at_bipush C (-2 : Int32) dX6_old_32 (by decide) ?_
        exact hR _ _ _ _ dX6_old_34 (Or.inl ⟨(by have := c162; have := c166; have := c170; have : (0 : Int32).toInt = 0 := (by decide); have : (1 : Int32).toInt = 1 := (by decide); have : (10 : Int32).toInt = 10 := (by decide); have : (1000 : Int32).toInt = 1000 := (by decide); omega), rfl, rfl, hI⟩)
    · refine at_if_eq C 32 dX6_old_19 (by decide) (fun c183 => ?_) (fun c183 => absurd (iv_xne (iv_c (c := 0) (x := (0 : Int32)) (by decide)) (iv_c (c := 0) (x := (0 : Int32)) (by decide))) c183)
      refine at_bipush C (-2 : Int32) dX6_old_32 (by decide) ?_
      exact hR _ _ _ _ dX6_old_34 (Or.inl ⟨(by have := c162; have := c166; have : (0 : Int32).toInt = 0 := (by decide); have : (1000 : Int32).toInt = 1000 := (by decide); omega), rfl, rfl, hI⟩)
  · refine at_if_eq C 32 dX6_old_8 (by decide) (fun c184 => ?_) (fun c184 => absurd (iv_xne (iv_c (c := 0) (x := (0 : Int32)) (by decide)) (iv_c (c := 0) (x := (0 : Int32)) (by decide))) c184)
    refine at_bipush C (-2 : Int32) dX6_old_32 (by decide) ?_
    exact hR _ _ _ _ dX6_old_34 (Or.inl ⟨(by have := c162; omega), rfl, rfl, hI⟩)
abbrev pc_X6_clock_0 (σ : SS) (x1 : Int32) (x2 : Int32) : Prop := (¬ ((1 ≤ (x1).toInt ∧ (x1).toInt ≤ 1000) ∧ (1 ≤ (x2).toInt ∧ (x2).toInt ≤ 100) ∧ ((x1).toInt ≤ ((50 : Int32) * x2).toInt)))
abbrev pc_X6_clock_1 (σ : SS) (x1 : Int32) (x2 : Int32) : Prop := ((1 ≤ (x1).toInt ∧ (x1).toInt ≤ 1000) ∧ (1 ≤ (x2).toInt ∧ (x2).toInt ≤ 100) ∧ ((x1).toInt ≤ ((50 : Int32) * x2).toInt))
abbrev po_X6_clock (σ : SS) (x1 : Int32) (x2 : Int32) (r : Int32) (σ' : SS) : Prop := (pc_X6_clock_0 σ x1 x2 ∧ r = (-2 : Int32) ∧ σ = σ' ∧ Inv σ') ∨ (pc_X6_clock_1 σ x1 x2 ∧ r = (1 : Int32) ∧ (ac_si (ac_si σ 5 x1) 6 x2) = σ' ∧ Inv σ')
theorem pi_X6_clock {σ : SS} {x1 : Int32} {x2 : Int32} {r : Int32} {u : SS} (h : po_X6_clock σ x1 x2 r u) : Inv u := by
  rcases h with ⟨-, -, -, h⟩ | ⟨-, -, -, h⟩
  all_goals exact h
set_option maxHeartbeats 4000000 in
set_option maxRecDepth 100000 in
theorem ct_X6_clock (σ : SS) (x1 : Int32) (x2 : Int32) (hI : Inv σ) : ConI yX6_clock cX6_clock 3 (some .int) 1 (some 0) [.int x1, .int x2] σ ((po_X6_clock σ x1 x2)) := by
  refine conI_of (by decide) (fun q => Nat.le_of_ble_eq_true rfl) (fun E C en hR => ?_)
  refine at_iload_n C 1 dX6_clock_0 rfl ?_
  refine at_iconst C (1 : Int32) dX6_clock_1 (by decide) ?_
  refine at_sipush C (1000 : Int32) dX6_clock_2 (by decide) ?_
  refine at_Si C (As := [.int x1, .int (1 : Int32), .int (1000 : Int32)]) (st := []) (ct_X6_within σ x1 (1 : Int32) (1000 : Int32)) mb_X6_within ml_X6_66 rfl (by decide) rfl (Nat.le_of_ble_eq_true rfl) dX6_clock_5 ?_
  rintro _ _ ⟨rfl, ⟨rfl, c106⟩ | ⟨rfl, c106⟩⟩
  · have f108 : iv 1 1000 x1 := (iv_of2 c106 (iv_c (c := 1) (x := (1 : Int32)) (by decide)) (iv_c (c := 1000) (x := (1000 : Int32)) (by decide)))
    refine at_if_eq C 29 dX6_clock_8 (by decide) (fun c109 => absurd c109 (iv_xeq (iv_c (c := 1) (x := (1 : Int32)) (by decide)) (iv_c (c := 0) (x := (0 : Int32)) (by decide)) (by decide))) (fun c109 => ?_)
    refine at_iload_n C 2 dX6_clock_11 rfl ?_
    refine at_iconst C (1 : Int32) dX6_clock_12 (by decide) ?_
    refine at_bipush C (100 : Int32) dX6_clock_13 (by decide) ?_
    refine at_Si C (As := [.int x2, .int (1 : Int32), .int (100 : Int32)]) (st := []) (ct_X6_within σ x2 (1 : Int32) (100 : Int32)) mb_X6_within ml_X6_66 rfl (by decide) rfl (Nat.le_of_ble_eq_true rfl) dX6_clock_15 ?_
    rintro _ _ ⟨rfl, ⟨rfl, c110⟩ | ⟨rfl, c110⟩⟩
    · have f112 : iv 1 100 x2 := (iv_of2 c110 (iv_c (c := 1) (x := (1 : Int32)) (by decide)) (iv_c (c := 100) (x := (100 : Int32)) (by decide)))
      refine at_if_eq C 29 dX6_clock_18 (by decide) (fun c113 => absurd c113 (iv_xeq (iv_c (c := 1) (x := (1 : Int32)) (by decide)) (iv_c (c := 0) (x := (0 : Int32)) (by decide)) (by decide))) (fun c113 => ?_)
      refine at_iload_n C 1 dX6_clock_21 rfl ?_
      refine at_bipush C (50 : Int32) dX6_clock_22 (by decide) ?_
      refine at_iload_n C 2 dX6_clock_24 rfl ?_
      refine at_imul C dX6_clock_25 ?_
      refine at_icmp_le C 32 dX6_clock_26 (by decide) (fun c114 => ?_) (fun c114 => ?_)
      · have f115 : iv 1 5000 ((50 : Int32) * x2) := (iv_ler f108 (iv_mul (iv_wk (c := 0) (iv_c (c := 50) (x := (50 : Int32)) (by decide)) (by decide) (Int.le_refl _)) (iv_wk (c := 0) f112 (by decide) (Int.le_refl _)) (by decide)) c114)
        refine at_aload_n C 0 dX6_clock_32 rfl ?_
        refine gf_X6_37 C dX6_clock_33 ?_
        refine at_iload_n C 1 dX6_clock_36 rfl ?_
        refine pf_X6_127 C dX6_clock_37 ?_
        have hJ116 := Inv.si (k := 5) hI (show iv 1 1000 x1 from f108)
        refine at_aload_n C 0 dX6_clock_40 rfl ?_
        refine gf_X6_37 C dX6_clock_41 ?_
        refine at_iload_n C 2 dX6_clock_44 rfl ?_
        refine pf_X6_130 C dX6_clock_45 ?_
        have hJ117 := Inv.si (k := 6) hJ116 (show iv 1 100 x2 from f112)
        refine at_iconst C (1 : Int32) dX6_clock_48 (by decide) ?_
        exact hR _ _ _ _ dX6_clock_49 (Or.inr ⟨(by have t1 := iv_le c114; have := c106; have := c110; have : (1 : Int32).toInt = 1 := (by decide); have : (100 : Int32).toInt = 100 := (by decide); have : (1000 : Int32).toInt = 1000 := (by decide); omega), rfl, rfl, hJ117⟩)
      · have f118 : iv 0 999 ((50 : Int32) * x2) := (iv_ltl (iv_mul (iv_wk (c := 0) (iv_c (c := 50) (x := (50 : Int32)) (by decide)) (by decide) (Int.le_refl _)) (iv_wk (c := 0) f112 (by decide) (Int.le_refl _)) (by decide)) f108 (Int32.not_le.mp c114))
        refine at_bipush C (-2 : Int32) dX6_clock_29 (by decide) ?_
        exact hR _ _ _ _ dX6_clock_31 (Or.inl ⟨(by have t1 := iv_lt (Int32.not_le.mp c114); have := c106; have := c110; have : (1 : Int32).toInt = 1 := (by decide); have : (100 : Int32).toInt = 100 := (by decide); have : (1000 : Int32).toInt = 1000 := (by decide); omega), rfl, rfl, hI⟩)
    · refine at_if_eq C 29 dX6_clock_18 (by decide) (fun c119 => ?_) (fun c119 => absurd (iv_xne (iv_c (c := 0) (x := (0 : Int32)) (by decide)) (iv_c (c := 0) (x := (0 : Int32)) (by decide))) c119)
      refine at_bipush C (-2 : Int32) dX6_clock_29 (by decide) ?_
      exact hR _ _ _ _ dX6_clock_31 (Or.inl ⟨(by have := c106; have := c110; have : (1 : Int32).toInt = 1 := (by decide); have : (100 : Int32).toInt = 100 := (by decide); have : (1000 : Int32).toInt = 1000 := (by decide); omega), rfl, rfl, hI⟩)
  · refine at_if_eq C 29 dX6_clock_8 (by decide) (fun c120 => ?_) (fun c120 => absurd (iv_xne (iv_c (c := 0) (x := (0 : Int32)) (by decide)) (iv_c (c := 0) (x := (0 : Int32)) (by decide))) c120)
    refine at_bipush C (-2 : Int32) dX6_clock_29 (by decide) ?_
    exact hR _ _ _ _ dX6_clock_31 (Or.inl ⟨(by have := c106; have : (1 : Int32).toInt = 1 := (by decide); have : (1000 : Int32).toInt = 1000 := (by decide); omega), rfl, rfl, hI⟩)
abbrev pc_X6_house_0 (σ : SS) : Prop := (¬ (((ac_gi σ 12).toInt < 6)))
abbrev pc_X6_house_1 (σ : SS) : Prop := (((ac_gi σ 12).toInt < 6))
abbrev po_X6_house (σ : SS) (r : Int32) (σ' : SS) : Prop := (pc_X6_house_0 σ  ∧ r = (-4 : Int32) ∧ σ = σ' ∧ Inv σ') ∨ (pc_X6_house_1 σ  ∧ r = (((ac_gi σ 12) + (1 : Int32)) - (1 : Int32)) ∧ (ac_si (ac_si σ 12 ((ac_gi σ 12) + (1 : Int32))) 14 (1 : Int32)) = σ' ∧ Inv σ')
theorem pi_X6_house {σ : SS} {r : Int32} {u : SS} (h : po_X6_house σ  r u) : Inv u := by
  rcases h with ⟨-, -, -, h⟩ | ⟨-, -, -, h⟩
  all_goals exact h
set_option maxHeartbeats 4000000 in
set_option maxRecDepth 100000 in
theorem ct_X6_house (σ : SS) (hI : Inv σ) : ConI yX6_house cX6_house 1 (some .int) 1 (some 0) [] σ (po_X6_house σ) := by
  refine conI_of (by decide) (fun q => Nat.le_of_ble_eq_true rfl) (fun E C en hR => ?_)
  refine at_aload_n C 0 dX6_house_0 rfl ?_
  refine gf_X6_44 C dX6_house_1 ?_
  refine gf_X6_156 C dX6_house_4 ?_
  refine at_bipush C (6 : Int32) dX6_house_7 (by decide) ?_
  refine at_icmp_lt C 17 dX6_house_9 (by decide) (fun c29 => ?_) (fun c29 => ?_)
  · have f30 : iv 0 5 (ac_gi σ 12) := (iv_ltl (show iv 0 6 (ac_gi σ 12) from hI.1 12) (iv_c (c := 6) (x := (6 : Int32)) (by decide)) c29)
    refine at_aload_n C 0 dX6_house_17 rfl ?_
    refine gf_X6_44 C dX6_house_18 ?_
    refine at_Vi C (As := []) (st := []) (b := 5) (ci := 5) (ct_X5_addHouse σ hI (show iv 0 5 (ac_gi σ 12) from f30)) mb_X5_addHouse ml_X6_159 rfl rfl rfl (by decide) rfl (Nat.le_of_ble_eq_true rfl) dX6_house_21 ?_
    rintro _ _ (⟨rfl, rfl, hJ31⟩)
    · show AT E 24 [(0, .ref (e_q E 0))] [.int (((ac_gi σ 12) + (1 : Int32)) - (1 : Int32))] (ac_si (ac_si σ 12 ((ac_gi σ 12) + (1 : Int32))) 14 (1 : Int32))
      exact hR _ _ _ _ dX6_house_24 (Or.inr ⟨(by have t1 := iv_lt c29; have k0 : (6 : Int32).toInt = 6 := (by decide); omega), rfl, rfl, hJ31⟩)
  · have f32 : iv 6 6 (ac_gi σ 12) := (iv_ler (iv_c (c := 6) (x := (6 : Int32)) (by decide)) (show iv 0 6 (ac_gi σ 12) from hI.1 12) (Int32.not_lt.mp c29))
    refine at_bipush C (-4 : Int32) dX6_house_12 (by decide) ?_
    refine at_goto C 24 dX6_house_14 (by decide) ?_
    exact hR _ _ _ _ dX6_house_24 (Or.inl ⟨(by have t1 := iv_le (Int32.not_lt.mp c29); have k0 : (6 : Int32).toInt = 6 := (by decide); omega), rfl, rfl, hI⟩)
abbrev pc_X6_ask_0 (σ : SS) (x1 : Int32) (x2 : Int32) (x3 : Int32) : Prop := (¬ ((0 ≤ (x1).toInt ∧ (x1).toInt < (ac_gi σ 12).toInt) ∧ (1 ≤ (x2).toInt ∧ (x2).toInt ≤ 63) ∧ (1 ≤ (x3).toInt ∧ (x3).toInt ≤ 100000)))
abbrev pc_X6_ask_1 (σ : SS) (x1 : Int32) (x2 : Int32) (x3 : Int32) : Prop := ((0 ≤ (x1).toInt ∧ (x1).toInt < (ac_gi σ 12).toInt) ∧ (1 ≤ (x2).toInt ∧ (x2).toInt ≤ 63) ∧ (1 ≤ (x3).toInt ∧ (x3).toInt ≤ 100000)) ∧ (¬ (((ac_gi σ 13).toInt < 24)))
abbrev pc_X6_ask_2 (σ : SS) (x1 : Int32) (x2 : Int32) (x3 : Int32) : Prop := ((0 ≤ (x1).toInt ∧ (x1).toInt < (ac_gi σ 12).toInt) ∧ (1 ≤ (x2).toInt ∧ (x2).toInt ≤ 63) ∧ (1 ≤ (x3).toInt ∧ (x3).toInt ≤ 100000)) ∧ (((ac_gi σ 13).toInt < 24))
abbrev po_X6_ask (σ : SS) (x1 : Int32) (x2 : Int32) (x3 : Int32) (r : Int32) (σ' : SS) : Prop := (pc_X6_ask_0 σ x1 x2 x3 ∧ r = (-2 : Int32) ∧ σ = σ' ∧ Inv σ') ∨ (pc_X6_ask_1 σ x1 x2 x3 ∧ r = (-4 : Int32) ∧ σ = σ' ∧ Inv σ') ∨ (pc_X6_ask_2 σ x1 x2 x3 ∧ r = (((ac_gi σ 13) + (1 : Int32)) - (1 : Int32)) ∧ (ac_si (ac_si (ac_sa (ac_sa (ac_sa σ 21 (upd (ac_ga σ 21) ((ac_gi σ 13)).toNatClampNeg x1)) 22 (upd (ac_ga (ac_sa σ 21 (upd (ac_ga σ 21) ((ac_gi σ 13)).toNatClampNeg x1)) 22) ((ac_gi σ 13)).toNatClampNeg x2)) 23 (upd (ac_ga (ac_sa (ac_sa σ 21 (upd (ac_ga σ 21) ((ac_gi σ 13)).toNatClampNeg x1)) 22 (upd (ac_ga (ac_sa σ 21 (upd (ac_ga σ 21) ((ac_gi σ 13)).toNatClampNeg x1)) 22) ((ac_gi σ 13)).toNatClampNeg x2)) 23) ((ac_gi σ 13)).toNatClampNeg x3)) 13 ((ac_gi σ 13) + (1 : Int32))) 14 (1 : Int32)) = σ' ∧ Inv σ')
theorem pi_X6_ask {σ : SS} {x1 : Int32} {x2 : Int32} {x3 : Int32} {r : Int32} {u : SS} (h : po_X6_ask σ x1 x2 x3 r u) : Inv u := by
  rcases h with ⟨-, -, -, h⟩ | ⟨-, -, -, h⟩ | ⟨-, -, -, h⟩
  all_goals exact h
set_option maxHeartbeats 4000000 in
set_option maxRecDepth 100000 in
theorem ct_X6_ask (σ : SS) (x1 : Int32) (x2 : Int32) (x3 : Int32) (hI : Inv σ) : ConI yX6_ask cX6_ask 4 (some .int) 1 (some 0) [.int x1, .int x2, .int x3] σ ((po_X6_ask σ x1 x2 x3)) := by
  refine conI_of (by decide) (fun q => Nat.le_of_ble_eq_true rfl) (fun E C en hR => ?_)
  refine at_aload_n C 0 dX6_ask_0 rfl ?_
  refine gf_X6_44 C dX6_ask_1 ?_
  refine at_iload_n C 1 dX6_ask_4 rfl ?_
  refine at_Vi C (As := [.int x1]) (st := []) (b := 5) (ci := 5) (ct_X5_isHouse σ x1) mb_X5_isHouse ml_X6_162 rfl rfl rfl (by decide) rfl (Nat.le_of_ble_eq_true rfl) dX6_ask_5 ?_
  rintro _ _ ⟨rfl, ⟨rfl, c155⟩ | ⟨rfl, c155⟩⟩
  · have f157 : iv 0 5 x1 := (iv_of3 c155 (show iv 0 6 (ac_gi σ 12) from hI.1 12))
    refine at_if_eq C 31 dX6_ask_8 (by decide) (fun c158 => absurd c158 (iv_xeq (iv_c (c := 1) (x := (1 : Int32)) (by decide)) (iv_c (c := 0) (x := (0 : Int32)) (by decide)) (by decide))) (fun c158 => ?_)
    refine at_iload_n C 2 dX6_ask_11 rfl ?_
    refine at_iconst C (1 : Int32) dX6_ask_12 (by decide) ?_
    refine at_bipush C (63 : Int32) dX6_ask_13 (by decide) ?_
    refine at_Si C (As := [.int x2, .int (1 : Int32), .int (63 : Int32)]) (st := []) (ct_X6_within σ x2 (1 : Int32) (63 : Int32)) mb_X6_within ml_X6_66 rfl (by decide) rfl (Nat.le_of_ble_eq_true rfl) dX6_ask_15 ?_
    rintro _ _ ⟨rfl, ⟨rfl, c159⟩ | ⟨rfl, c159⟩⟩
    · have f161 : iv 1 63 x2 := (iv_of2 c159 (iv_c (c := 1) (x := (1 : Int32)) (by decide)) (iv_c (c := 63) (x := (63 : Int32)) (by decide)))
      refine at_if_eq C 31 dX6_ask_18 (by decide) (fun c162 => absurd c162 (iv_xeq (iv_c (c := 1) (x := (1 : Int32)) (by decide)) (iv_c (c := 0) (x := (0 : Int32)) (by decide)) (by decide))) (fun c162 => ?_)
      refine at_iload_n C 3 dX6_ask_21 rfl ?_
      refine at_iconst C (1 : Int32) dX6_ask_22 (by decide) ?_
      refine at_ldc C (100000 : Int32) dX6_ask_23 kc_X6_165 ?_
      refine at_Si C (As := [.int x3, .int (1 : Int32), .int (100000 : Int32)]) (st := []) (ct_X6_within σ x3 (1 : Int32) (100000 : Int32)) mb_X6_within ml_X6_66 rfl (by decide) rfl (Nat.le_of_ble_eq_true rfl) dX6_ask_25 ?_
      rintro _ _ ⟨rfl, ⟨rfl, c163⟩ | ⟨rfl, c163⟩⟩
      · have f165 : iv 1 100000 x3 := (iv_of2 c163 (iv_c (c := 1) (x := (1 : Int32)) (by decide)) (iv_c (c := 100000) (x := (100000 : Int32)) (by decide)))
        refine at_if_ne C 34 dX6_ask_28 (by decide) (fun c166 => ?_) (fun c166 => absurd c166 (iv_xeq (iv_c (c := 1) (x := (1 : Int32)) (by decide)) (iv_c (c := 0) (x := (0 : Int32)) (by decide)) (by decide)))
        refine at_aload_n C 0 dX6_ask_34 rfl ?_
        refine gf_X6_44 C dX6_ask_35 ?_
        refine gf_X6_166 C dX6_ask_38 ?_
        refine at_bipush C (24 : Int32) dX6_ask_41 (by decide) ?_
        refine at_icmp_lt C 51 dX6_ask_43 (by decide) (fun c167 => ?_) (fun c167 => ?_)
        · have f168 : iv 0 23 (ac_gi σ 13) := (iv_ltl (show iv 0 24 (ac_gi σ 13) from hI.1 13) (iv_c (c := 24) (x := (24 : Int32)) (by decide)) c167)
          refine at_aload_n C 0 dX6_ask_51 rfl ?_
          refine gf_X6_44 C dX6_ask_52 ?_
          refine at_iload_n C 1 dX6_ask_55 rfl ?_
          refine at_iload_n C 2 dX6_ask_56 rfl ?_
          refine at_iload_n C 3 dX6_ask_57 rfl ?_
          refine at_Vi C (As := [.int x1, .int x2, .int x3]) (st := []) (b := 5) (ci := 5) (ct_X5_addSentence σ x1 x2 x3 hI (iv_wk f161 (by decide) (by decide) : iv 0 63 x2)) mb_X5_addSentence ml_X6_169 rfl rfl rfl (by decide) rfl (Nat.le_of_ble_eq_true rfl) dX6_ask_58 ?_
          rintro _ _ (⟨c169, rfl, rfl, hJ170⟩ | ⟨c171, rfl, rfl, hJ172⟩)
          · show AT E 61 [(0, .ref (e_q E 0)), (1, .int x1), (2, .int x2), (3, .int x3)] [.int (-4 : Int32)] σ
            exact hR _ _ _ _ dX6_ask_61 (Or.inr (Or.inl ⟨⟨(by have t1 := iv_lt c167; have k0 : (24 : Int32).toInt = 24 := (by decide); have := c155; have := c159; have := c163; have : (1 : Int32).toInt = 1 := (by decide); have : (63 : Int32).toInt = 63 := (by decide); have : (100000 : Int32).toInt = 100000 := (by decide); have := c169; omega), (by have t1 := iv_lt c167; have k0 : (24 : Int32).toInt = 24 := (by decide); have := c155; have := c159; have := c163; have : (1 : Int32).toInt = 1 := (by decide); have : (63 : Int32).toInt = 63 := (by decide); have : (100000 : Int32).toInt = 100000 := (by decide); have := c169; omega)⟩, rfl, rfl, hI⟩))
          · show AT E 61 [(0, .ref (e_q E 0)), (1, .int x1), (2, .int x2), (3, .int x3)] [.int (((ac_gi σ 13) + (1 : Int32)) - (1 : Int32))] (ac_si (ac_si (ac_sa (ac_sa (ac_sa σ 21 (upd (ac_ga σ 21) ((ac_gi σ 13)).toNatClampNeg x1)) 22 (upd (ac_ga (ac_sa σ 21 (upd (ac_ga σ 21) ((ac_gi σ 13)).toNatClampNeg x1)) 22) ((ac_gi σ 13)).toNatClampNeg x2)) 23 (upd (ac_ga (ac_sa (ac_sa σ 21 (upd (ac_ga σ 21) ((ac_gi σ 13)).toNatClampNeg x1)) 22 (upd (ac_ga (ac_sa σ 21 (upd (ac_ga σ 21) ((ac_gi σ 13)).toNatClampNeg x1)) 22) ((ac_gi σ 13)).toNatClampNeg x2)) 23) ((ac_gi σ 13)).toNatClampNeg x3)) 13 ((ac_gi σ 13) + (1 : Int32))) 14 (1 : Int32))
            exact hR _ _ _ _ dX6_ask_61 (Or.inr (Or.inr ⟨⟨(by have t1 := iv_lt c167; have k0 : (24 : Int32).toInt = 24 := (by decide); have := c155; have := c159; have := c163; have : (1 : Int32).toInt = 1 := (by decide); have : (63 : Int32).toInt = 63 := (by decide); have : (100000 : Int32).toInt = 100000 := (by decide); have := c171; omega), (by have t1 := iv_lt c167; have k0 : (24 : Int32).toInt = 24 := (by decide); have := c155; have := c159; have := c163; have : (1 : Int32).toInt = 1 := (by decide); have : (63 : Int32).toInt = 63 := (by decide); have : (100000 : Int32).toInt = 100000 := (by decide); have := c171; omega)⟩, rfl, rfl, hJ172⟩))
        · have f173 : iv 24 24 (ac_gi σ 13) := (iv_ler (iv_c (c := 24) (x := (24 : Int32)) (by decide)) (show iv 0 24 (ac_gi σ 13) from hI.1 13) (Int32.not_lt.mp c167))
          refine at_bipush C (-4 : Int32) dX6_ask_46 (by decide) ?_
          refine at_goto C 61 dX6_ask_48 (by decide) ?_
          exact hR _ _ _ _ dX6_ask_61 (Or.inr (Or.inl ⟨⟨(by have t1 := iv_le (Int32.not_lt.mp c167); have k0 : (24 : Int32).toInt = 24 := (by decide); have := c155; have := c159; have := c163; have : (1 : Int32).toInt = 1 := (by decide); have : (63 : Int32).toInt = 63 := (by decide); have : (100000 : Int32).toInt = 100000 := (by decide); omega), (by have t1 := iv_le (Int32.not_lt.mp c167); have k0 : (24 : Int32).toInt = 24 := (by decide); have := c155; have := c159; have := c163; have : (1 : Int32).toInt = 1 := (by decide); have : (63 : Int32).toInt = 63 := (by decide); have : (100000 : Int32).toInt = 100000 := (by decide); omega)⟩, rfl, rfl, hI⟩))
      · refine at_if_ne C 34 dX6_ask_28 (by decide) (fun c174 => absurd (iv_xne (iv_c (c := 0) (x := (0 : Int32)) (by decide)) (iv_c (c := 0) (x := (0 : Int32)) (by decide))) c174) (fun c174 => ?_)
        refine at_bipush C (-2 : Int32) dX6_ask_31 (by decide) ?_
        exact hR _ _ _ _ dX6_ask_33 (Or.inl ⟨(by have := c155; have := c159; have := c163; have : (1 : Int32).toInt = 1 := (by decide); have : (63 : Int32).toInt = 63 := (by decide); have : (100000 : Int32).toInt = 100000 := (by decide); omega), rfl, rfl, hI⟩)
    · refine at_if_eq C 31 dX6_ask_18 (by decide) (fun c175 => ?_) (fun c175 => absurd (iv_xne (iv_c (c := 0) (x := (0 : Int32)) (by decide)) (iv_c (c := 0) (x := (0 : Int32)) (by decide))) c175)
      refine at_bipush C (-2 : Int32) dX6_ask_31 (by decide) ?_
      exact hR _ _ _ _ dX6_ask_33 (Or.inl ⟨(by have := c155; have := c159; have : (1 : Int32).toInt = 1 := (by decide); have : (63 : Int32).toInt = 63 := (by decide); omega), rfl, rfl, hI⟩)
  · refine at_if_eq C 31 dX6_ask_8 (by decide) (fun c176 => ?_) (fun c176 => absurd (iv_xne (iv_c (c := 0) (x := (0 : Int32)) (by decide)) (iv_c (c := 0) (x := (0 : Int32)) (by decide))) c176)
    refine at_bipush C (-2 : Int32) dX6_ask_31 (by decide) ?_
    exact hR _ _ _ _ dX6_ask_33 (Or.inl ⟨(by have := c155; omega), rfl, rfl, hI⟩)
abbrev pc_X6_price_0 (σ : SS) (x1 : Int32) (x2 : Int32) : Prop := (¬ ((0 ≤ (x1).toInt ∧ (x1).toInt < (ac_gi σ 12).toInt) ∧ (0 ≤ (x2).toInt ∧ (x2).toInt ≤ 100000)))
abbrev pc_X6_price_1 (σ : SS) (x1 : Int32) (x2 : Int32) : Prop := ((0 ≤ (x1).toInt ∧ (x1).toInt < (ac_gi σ 12).toInt) ∧ (0 ≤ (x2).toInt ∧ (x2).toInt ≤ 100000))
abbrev po_X6_price (σ : SS) (x1 : Int32) (x2 : Int32) (r : Int32) (σ' : SS) : Prop := (pc_X6_price_0 σ x1 x2 ∧ r = (-2 : Int32) ∧ σ = σ' ∧ Inv σ') ∨ (pc_X6_price_1 σ x1 x2 ∧ r = (ac_ga σ 24 (x1).toNatClampNeg) ∧ (ac_sa σ 24 (upd (ac_ga σ 24) (x1).toNatClampNeg x2)) = σ' ∧ Inv σ')
theorem pi_X6_price {σ : SS} {x1 : Int32} {x2 : Int32} {r : Int32} {u : SS} (h : po_X6_price σ x1 x2 r u) : Inv u := by
  rcases h with ⟨-, -, -, h⟩ | ⟨-, -, -, h⟩
  all_goals exact h
set_option maxHeartbeats 4000000 in
set_option maxRecDepth 100000 in
theorem ct_X6_price (σ : SS) (x1 : Int32) (x2 : Int32) (hI : Inv σ) : ConI yX6_price cX6_price 4 (some .int) 1 (some 0) [.int x1, .int x2] σ ((po_X6_price σ x1 x2)) := by
  refine conI_of (by decide) (fun q => Nat.le_of_ble_eq_true rfl) (fun E C en hR => ?_)
  have hn3 : 3 < e_n E := by rw [en]; decide
  refine at_aload_n C 0 dX6_price_0 rfl ?_
  refine gf_X6_44 C dX6_price_1 ?_
  refine at_iload_n C 1 dX6_price_4 rfl ?_
  refine at_Vi C (As := [.int x1]) (st := []) (b := 5) (ci := 5) (ct_X5_isHouse σ x1) mb_X5_isHouse ml_X6_162 rfl rfl rfl (by decide) rfl (Nat.le_of_ble_eq_true rfl) dX6_price_5 ?_
  rintro _ _ ⟨rfl, ⟨rfl, c78⟩ | ⟨rfl, c78⟩⟩
  · have f80 : iv 0 5 x1 := (iv_of3 c78 (show iv 0 6 (ac_gi σ 12) from hI.1 12))
    refine at_if_eq C 21 dX6_price_8 (by decide) (fun c81 => absurd c81 (iv_xeq (iv_c (c := 1) (x := (1 : Int32)) (by decide)) (iv_c (c := 0) (x := (0 : Int32)) (by decide)) (by decide))) (fun c81 => ?_)
    refine at_iload_n C 2 dX6_price_11 rfl ?_
    refine at_iconst C (0 : Int32) dX6_price_12 (by decide) ?_
    refine at_ldc C (100000 : Int32) dX6_price_13 kc_X6_165 ?_
    refine at_Si C (As := [.int x2, .int (0 : Int32), .int (100000 : Int32)]) (st := []) (ct_X6_within σ x2 (0 : Int32) (100000 : Int32)) mb_X6_within ml_X6_66 rfl (by decide) rfl (Nat.le_of_ble_eq_true rfl) dX6_price_15 ?_
    rintro _ _ ⟨rfl, ⟨rfl, c82⟩ | ⟨rfl, c82⟩⟩
    · have f84 : iv 0 100000 x2 := (iv_of2 c82 (iv_c (c := 0) (x := (0 : Int32)) (by decide)) (iv_c (c := 100000) (x := (100000 : Int32)) (by decide)))
      refine at_if_ne C 24 dX6_price_18 (by decide) (fun c85 => ?_) (fun c85 => absurd c85 (iv_xeq (iv_c (c := 1) (x := (1 : Int32)) (by decide)) (iv_c (c := 0) (x := (0 : Int32)) (by decide)) (by decide)))
      refine at_aload_n C 0 dX6_price_24 rfl ?_
      refine gf_X6_44 C dX6_price_25 ?_
      refine gf_X6_189 C dX6_price_28 ?_
      refine at_iload_n C 1 dX6_price_31 rfl ?_
      refine at_iald C (c := 24) rfl (iv_in (n := 6) f80 (by decide) (by decide)) dX6_price_32 ?_
      refine at_istore_n C (lv' := [(3, .int (ac_ga σ 24 (x1).toNatClampNeg)), (0, .ref (e_q E 0)), (1, .int x1), (2, .int x2)]) dX6_price_33 hn3 rfl ?_
      refine at_aload_n C 1 dX6_price_34 rfl ?_
      refine gf_X6_44 C dX6_price_35 ?_
      refine gf_X6_189 C dX6_price_38 ?_
      refine at_iload_n C 2 dX6_price_41 rfl ?_
      refine at_iload_n C 3 dX6_price_42 rfl ?_
      refine at_iast C (c := 24) rfl (fun f => ac_ast_24 _ _ _ _ f) (iv_in (n := 6) f80 (by decide) (by decide)) dX6_price_43 ?_
      have hJ86 := Inv.sa (c := 24) (i := (x1).toNatClampNeg) hI (iv_wk f84 (by decide) (by decide) : iv (-2147483648) 2147483647 x2)
      refine at_iload_n C 0 dX6_price_44 rfl ?_
      exact hR _ _ _ _ dX6_price_45 (Or.inr ⟨(by have := c78; have := c82; have : (0 : Int32).toInt = 0 := (by decide); have : (100000 : Int32).toInt = 100000 := (by decide); omega), rfl, rfl, hJ86⟩)
    · refine at_if_ne C 24 dX6_price_18 (by decide) (fun c87 => absurd (iv_xne (iv_c (c := 0) (x := (0 : Int32)) (by decide)) (iv_c (c := 0) (x := (0 : Int32)) (by decide))) c87) (fun c87 => ?_)
      refine at_bipush C (-2 : Int32) dX6_price_21 (by decide) ?_
      exact hR _ _ _ _ dX6_price_23 (Or.inl ⟨(by have := c78; have := c82; have : (0 : Int32).toInt = 0 := (by decide); have : (100000 : Int32).toInt = 100000 := (by decide); omega), rfl, rfl, hI⟩)
  · refine at_if_eq C 21 dX6_price_8 (by decide) (fun c88 => ?_) (fun c88 => absurd (iv_xne (iv_c (c := 0) (x := (0 : Int32)) (by decide)) (iv_c (c := 0) (x := (0 : Int32)) (by decide))) c88)
    refine at_bipush C (-2 : Int32) dX6_price_21 (by decide) ?_
    exact hR _ _ _ _ dX6_price_23 (Or.inl ⟨(by have := c78; omega), rfl, rfl, hI⟩)
abbrev pc_X6_tell_0 (σ : SS) (x1 : Int32) (x2 : Int32) (x3 : Int32) : Prop := (¬ ((0 ≤ (x1).toInt ∧ (x1).toInt < (ac_gi σ 0).toInt) ∧ (0 ≤ (x2).toInt ∧ (x2).toInt ≤ 1) ∧ (-1 ≤ (x3).toInt ∧ (x3).toInt ≤ 5)))
abbrev pc_X6_tell_1 (σ : SS) (x1 : Int32) (x2 : Int32) (x3 : Int32) : Prop := ((0 ≤ (x1).toInt ∧ (x1).toInt < (ac_gi σ 0).toInt) ∧ (0 ≤ (x2).toInt ∧ (x2).toInt ≤ 1) ∧ (-1 ≤ (x3).toInt ∧ (x3).toInt ≤ 5)) ∧ (((x2).toInt = 0))
abbrev pc_X6_tell_2 (σ : SS) (x1 : Int32) (x2 : Int32) (x3 : Int32) : Prop := ((0 ≤ (x1).toInt ∧ (x1).toInt < (ac_gi σ 0).toInt) ∧ (0 ≤ (x2).toInt ∧ (x2).toInt ≤ 1) ∧ (-1 ≤ (x3).toInt ∧ (x3).toInt ≤ 5)) ∧ (((x2).toInt = 1))
abbrev po_X6_tell (σ : SS) (x1 : Int32) (x2 : Int32) (x3 : Int32) (r : Int32) (σ' : SS) : Prop := (pc_X6_tell_0 σ x1 x2 x3 ∧ r = (-10 : Int32) ∧ σ = σ' ∧ Inv σ') ∨ (pc_X6_tell_1 σ x1 x2 x3 ∧ r = (ac_ga σ 27 (x1).toNatClampNeg) ∧ (ac_sa σ 27 (upd (ac_ga σ 27) (x1).toNatClampNeg x3)) = σ' ∧ Inv σ') ∨ (pc_X6_tell_2 σ x1 x2 x3 ∧ r = (ac_ga σ 28 (x1).toNatClampNeg) ∧ (ac_sa σ 28 (upd (ac_ga σ 28) (x1).toNatClampNeg x3)) = σ' ∧ Inv σ')
theorem pi_X6_tell {σ : SS} {x1 : Int32} {x2 : Int32} {x3 : Int32} {r : Int32} {u : SS} (h : po_X6_tell σ x1 x2 x3 r u) : Inv u := by
  rcases h with ⟨-, -, -, h⟩ | ⟨-, -, -, h⟩ | ⟨-, -, -, h⟩
  all_goals exact h
set_option maxHeartbeats 4000000 in
set_option maxRecDepth 100000 in
theorem ct_X6_tell (σ : SS) (x1 : Int32) (x2 : Int32) (x3 : Int32) (hI : Inv σ) : ConI yX6_tell cX6_tell 6 (some .int) 1 (some 0) [.int x1, .int x2, .int x3] σ ((po_X6_tell σ x1 x2 x3)) := by
  refine conI_of (by decide) (fun q => Nat.le_of_ble_eq_true rfl) (fun E C en hR => ?_)
  have hn4 : 4 < e_n E := by rw [en]; decide
  have hn5 : 5 < e_n E := by rw [en]; decide
  refine at_aload_n C 0 dX6_tell_0 rfl ?_
  refine gf_X6_12 C dX6_tell_1 ?_
  refine at_iload_n C 1 dX6_tell_4 rfl ?_
  refine at_Vi C (As := [.int x1]) (st := []) (b := 1) (ci := 0) (ct_X0_isMast σ x1) mb_X0_isMast ml_X6_73 rfl rfl rfl (by decide) rfl (Nat.le_of_ble_eq_true rfl) dX6_tell_5 ?_
  rintro _ _ ⟨rfl, ⟨rfl, c141⟩ | ⟨rfl, c141⟩⟩
  · have f143 : iv 0 9 x1 := (iv_of3 c141 (show iv 0 10 (ac_gi σ 0) from hI.1 0))
    refine at_if_eq C 29 dX6_tell_8 (by decide) (fun c144 => absurd c144 (iv_xeq (iv_c (c := 1) (x := (1 : Int32)) (by decide)) (iv_c (c := 0) (x := (0 : Int32)) (by decide)) (by decide))) (fun c144 => ?_)
    refine at_iload_n C 2 dX6_tell_11 rfl ?_
    refine at_iconst C (0 : Int32) dX6_tell_12 (by decide) ?_
    refine at_iconst C (1 : Int32) dX6_tell_13 (by decide) ?_
    refine at_Si C (As := [.int x2, .int (0 : Int32), .int (1 : Int32)]) (st := []) (ct_X6_within σ x2 (0 : Int32) (1 : Int32)) mb_X6_within ml_X6_66 rfl (by decide) rfl (Nat.le_of_ble_eq_true rfl) dX6_tell_14 ?_
    rintro _ _ ⟨rfl, ⟨rfl, c145⟩ | ⟨rfl, c145⟩⟩
    · have f147 : iv 0 1 x2 := (iv_of2 c145 (iv_c (c := 0) (x := (0 : Int32)) (by decide)) (iv_c (c := 1) (x := (1 : Int32)) (by decide)))
      refine at_if_eq C 29 dX6_tell_17 (by decide) (fun c148 => absurd c148 (iv_xeq (iv_c (c := 1) (x := (1 : Int32)) (by decide)) (iv_c (c := 0) (x := (0 : Int32)) (by decide)) (by decide))) (fun c148 => ?_)
      refine at_iload_n C 3 dX6_tell_20 rfl ?_
      refine at_iconst C (-1 : Int32) dX6_tell_21 (by decide) ?_
      refine at_iconst C (5 : Int32) dX6_tell_22 (by decide) ?_
      refine at_Si C (As := [.int x3, .int (-1 : Int32), .int (5 : Int32)]) (st := []) (ct_X6_within σ x3 (-1 : Int32) (5 : Int32)) mb_X6_within ml_X6_66 rfl (by decide) rfl (Nat.le_of_ble_eq_true rfl) dX6_tell_23 ?_
      rintro _ _ ⟨rfl, ⟨rfl, c149⟩ | ⟨rfl, c149⟩⟩
      · have f151 : iv (-1) 5 x3 := (iv_of2 c149 (iv_c (c := (-1)) (x := (-1 : Int32)) (by decide)) (iv_c (c := 5) (x := (5 : Int32)) (by decide)))
        refine at_if_ne C 32 dX6_tell_26 (by decide) (fun c152 => ?_) (fun c152 => absurd c152 (iv_xeq (iv_c (c := 1) (x := (1 : Int32)) (by decide)) (iv_c (c := 0) (x := (0 : Int32)) (by decide)) (by decide)))
        refine at_iload_n C 2 dX6_tell_32 rfl ?_
        refine at_if_ne C 46 dX6_tell_33 (by decide) (fun c153 => ?_) (fun c153 => ?_)
        · have f154 : iv 1 1 x2 := (iv_nel f147 (by decide) c153)
          refine at_aload_n C 0 dX6_tell_46 rfl ?_
          refine gf_X6_51 C dX6_tell_47 ?_
          refine gf_X6_204 C dX6_tell_50 ?_
          refine at_astore C (lv' := [(4, .ref (e_q E 28)), (0, .ref (e_q E 0)), (1, .int x1), (2, .int x2), (3, .int x3)]) dX6_tell_53 hn4 rfl ?_
          refine at_aload C 0 dX6_tell_55 rfl ?_
          refine at_iload_n C 2 dX6_tell_57 rfl ?_
          refine at_iald C (c := 28) rfl (iv_in (n := 10) f143 (by decide) (by decide)) dX6_tell_58 ?_
          refine at_istore C (lv' := [(5, .int (ac_ga σ 28 (x1).toNatClampNeg)), (4, .ref (e_q E 28)), (0, .ref (e_q E 0)), (1, .int x1), (2, .int x2), (3, .int x3)]) dX6_tell_59 hn5 rfl ?_
          refine at_aload C 1 dX6_tell_61 rfl ?_
          refine at_iload_n C 3 dX6_tell_63 rfl ?_
          refine at_iload_n C 5 dX6_tell_64 rfl ?_
          refine at_iast C (c := 28) rfl (fun f => ac_ast_28 _ _ _ _ f) (iv_in (n := 10) f143 (by decide) (by decide)) dX6_tell_65 ?_
          have hJ155 := Inv.sa (c := 28) (i := (x1).toNatClampNeg) hI (iv_wk f151 (by decide) (by decide) : iv (-2147483648) 2147483647 x3)
          refine at_iload C 0 dX6_tell_66 rfl ?_
          exact hR _ _ _ _ dX6_tell_68 (Or.inr (Or.inr ⟨⟨(by have t1 := iv_ne c153; have k0 : (0 : Int32).toInt = 0 := (by decide); have := c141; have := c145; have := c149; have : (-1 : Int32).toInt = (-1) := (by decide); have : (0 : Int32).toInt = 0 := (by decide); have : (1 : Int32).toInt = 1 := (by decide); have : (5 : Int32).toInt = 5 := (by decide); omega), (by have t1 := iv_ne c153; have k0 : (0 : Int32).toInt = 0 := (by decide); have := c141; have := c145; have := c149; have : (-1 : Int32).toInt = (-1) := (by decide); have : (0 : Int32).toInt = 0 := (by decide); have : (1 : Int32).toInt = 1 := (by decide); have : (5 : Int32).toInt = 5 := (by decide); omega)⟩, rfl, rfl, hJ155⟩))
        · have f156 : iv 0 0 x2 := (iv_eql (iv_c (c := 0) (x := (0 : Int32)) (by decide)) c153)
          refine at_aload_n C 0 dX6_tell_36 rfl ?_
          refine gf_X6_51 C dX6_tell_37 ?_
          refine gf_X6_201 C dX6_tell_40 ?_
          refine at_goto C 53 dX6_tell_43 (by decide) ?_
          refine at_astore C (lv' := [(4, .ref (e_q E 27)), (0, .ref (e_q E 0)), (1, .int x1), (2, .int x2), (3, .int x3)]) dX6_tell_53 hn4 rfl ?_
          refine at_aload C 0 dX6_tell_55 rfl ?_
          refine at_iload_n C 2 dX6_tell_57 rfl ?_
          refine at_iald C (c := 27) rfl (iv_in (n := 10) f143 (by decide) (by decide)) dX6_tell_58 ?_
          refine at_istore C (lv' := [(5, .int (ac_ga σ 27 (x1).toNatClampNeg)), (4, .ref (e_q E 27)), (0, .ref (e_q E 0)), (1, .int x1), (2, .int x2), (3, .int x3)]) dX6_tell_59 hn5 rfl ?_
          refine at_aload C 1 dX6_tell_61 rfl ?_
          refine at_iload_n C 3 dX6_tell_63 rfl ?_
          refine at_iload_n C 5 dX6_tell_64 rfl ?_
          refine at_iast C (c := 27) rfl (fun f => ac_ast_27 _ _ _ _ f) (iv_in (n := 10) f143 (by decide) (by decide)) dX6_tell_65 ?_
          have hJ157 := Inv.sa (c := 27) (i := (x1).toNatClampNeg) hI (iv_wk f151 (by decide) (by decide) : iv (-2147483648) 2147483647 x3)
          refine at_iload C 0 dX6_tell_66 rfl ?_
          exact hR _ _ _ _ dX6_tell_68 (Or.inr (Or.inl ⟨⟨(by have t1 := congrArg Int32.toInt c153; have k0 : (0 : Int32).toInt = 0 := (by decide); have := c141; have := c145; have := c149; have : (-1 : Int32).toInt = (-1) := (by decide); have : (0 : Int32).toInt = 0 := (by decide); have : (1 : Int32).toInt = 1 := (by decide); have : (5 : Int32).toInt = 5 := (by decide); omega), (by have t1 := congrArg Int32.toInt c153; have k0 : (0 : Int32).toInt = 0 := (by decide); have := c141; have := c145; have := c149; have : (-1 : Int32).toInt = (-1) := (by decide); have : (0 : Int32).toInt = 0 := (by decide); have : (1 : Int32).toInt = 1 := (by decide); have : (5 : Int32).toInt = 5 := (by decide); omega)⟩, rfl, rfl, hJ157⟩))
      · refine at_if_ne C 32 dX6_tell_26 (by decide) (fun c158 => absurd (iv_xne (iv_c (c := 0) (x := (0 : Int32)) (by decide)) (iv_c (c := 0) (x := (0 : Int32)) (by decide))) c158) (fun c158 => ?_)
        refine at_bipush C (-10 : Int32) dX6_tell_29 (by decide) ?_
        exact hR _ _ _ _ dX6_tell_31 (Or.inl ⟨(by have := c141; have := c145; have := c149; have : (-1 : Int32).toInt = (-1) := (by decide); have : (0 : Int32).toInt = 0 := (by decide); have : (1 : Int32).toInt = 1 := (by decide); have : (5 : Int32).toInt = 5 := (by decide); omega), rfl, rfl, hI⟩)
    · refine at_if_eq C 29 dX6_tell_17 (by decide) (fun c159 => ?_) (fun c159 => absurd (iv_xne (iv_c (c := 0) (x := (0 : Int32)) (by decide)) (iv_c (c := 0) (x := (0 : Int32)) (by decide))) c159)
      refine at_bipush C (-10 : Int32) dX6_tell_29 (by decide) ?_
      exact hR _ _ _ _ dX6_tell_31 (Or.inl ⟨(by have := c141; have := c145; have : (0 : Int32).toInt = 0 := (by decide); have : (1 : Int32).toInt = 1 := (by decide); omega), rfl, rfl, hI⟩)
  · refine at_if_eq C 29 dX6_tell_8 (by decide) (fun c160 => ?_) (fun c160 => absurd (iv_xne (iv_c (c := 0) (x := (0 : Int32)) (by decide)) (iv_c (c := 0) (x := (0 : Int32)) (by decide))) c160)
    refine at_bipush C (-10 : Int32) dX6_tell_29 (by decide) ?_
    exact hR _ _ _ _ dX6_tell_31 (Or.inl ⟨(by have := c141; omega), rfl, rfl, hI⟩)
abbrev pc_X6_heard_0 (σ : SS) (x1 : Int32) (x2 : Int32) : Prop := (¬ ((0 ≤ (x1).toInt ∧ (x1).toInt ≤ 15) ∧ (0 ≤ (x2).toInt ∧ (x2).toInt < ((1 : Int32) <<< (ac_gi σ 0 &&& 31)).toInt)))
abbrev pc_X6_heard_1 (σ : SS) (x1 : Int32) (x2 : Int32) : Prop := ((0 ≤ (x1).toInt ∧ (x1).toInt ≤ 15) ∧ (0 ≤ (x2).toInt ∧ (x2).toInt < ((1 : Int32) <<< (ac_gi σ 0 &&& 31)).toInt))
abbrev po_X6_heard (σ : SS) (x1 : Int32) (x2 : Int32) (r : Int32) (σ' : SS) : Prop := (pc_X6_heard_0 σ x1 x2 ∧ r = (-2 : Int32) ∧ σ = σ' ∧ Inv σ') ∨ (pc_X6_heard_1 σ x1 x2 ∧ r = (ac_ga σ 7 (x1).toNatClampNeg) ∧ (ac_sa σ 7 (upd (ac_ga σ 7) (x1).toNatClampNeg x2)) = σ' ∧ Inv σ')
theorem pi_X6_heard {σ : SS} {x1 : Int32} {x2 : Int32} {r : Int32} {u : SS} (h : po_X6_heard σ x1 x2 r u) : Inv u := by
  rcases h with ⟨-, -, -, h⟩ | ⟨-, -, -, h⟩
  all_goals exact h
set_option maxHeartbeats 4000000 in
set_option maxRecDepth 100000 in
theorem ct_X6_heard (σ : SS) (x1 : Int32) (x2 : Int32) (hI : Inv σ) : ConI yX6_heard cX6_heard 4 (some .int) 1 (some 0) [.int x1, .int x2] σ ((po_X6_heard σ x1 x2)) := by
  refine conI_of (by decide) (fun q => Nat.le_of_ble_eq_true rfl) (fun E C en hR => ?_)
  have hn3 : 3 < e_n E := by rw [en]; decide
  refine at_iload_n C 1 dX6_heard_0 rfl ?_
  refine at_iconst C (0 : Int32) dX6_heard_1 (by decide) ?_
  refine at_bipush C (15 : Int32) dX6_heard_2 (by decide) ?_
  refine at_Si C (As := [.int x1, .int (0 : Int32), .int (15 : Int32)]) (st := []) (ct_X6_within σ x1 (0 : Int32) (15 : Int32)) mb_X6_within ml_X6_66 rfl (by decide) rfl (Nat.le_of_ble_eq_true rfl) dX6_heard_4 ?_
  rintro _ _ ⟨rfl, ⟨rfl, c78⟩ | ⟨rfl, c78⟩⟩
  · have f80 : iv 0 15 x1 := (iv_of2 c78 (iv_c (c := 0) (x := (0 : Int32)) (by decide)) (iv_c (c := 15) (x := (15 : Int32)) (by decide)))
    refine at_if_eq C 21 dX6_heard_7 (by decide) (fun c81 => absurd c81 (iv_xeq (iv_c (c := 1) (x := (1 : Int32)) (by decide)) (iv_c (c := 0) (x := (0 : Int32)) (by decide)) (by decide))) (fun c81 => ?_)
    refine at_aload_n C 0 dX6_heard_10 rfl ?_
    refine gf_X6_12 C dX6_heard_11 ?_
    refine at_iload_n C 2 dX6_heard_14 rfl ?_
    refine at_Vi C (As := [.int x2]) (st := []) (b := 1) (ci := 0) (ct_X0_isSet σ x2) mb_X0_isSet ml_X6_95 rfl rfl rfl (by decide) rfl (Nat.le_of_ble_eq_true rfl) dX6_heard_15 ?_
    rintro _ _ ⟨rfl, ⟨rfl, c82⟩ | ⟨rfl, c82⟩⟩
    · have f84 : iv 0 1023 x2 := (iv_of3 c82 (iv_shl1 (a := 0) (b := 10) (show iv 0 10 (ac_gi σ 0) from hI.1 0) (by decide)))
      refine at_if_ne C 24 dX6_heard_18 (by decide) (fun c85 => ?_) (fun c85 => absurd c85 (iv_xeq (iv_c (c := 1) (x := (1 : Int32)) (by decide)) (iv_c (c := 0) (x := (0 : Int32)) (by decide)) (by decide)))
      refine at_aload_n C 0 dX6_heard_24 rfl ?_
      refine gf_X6_55 C dX6_heard_25 ?_
      refine at_iload_n C 1 dX6_heard_28 rfl ?_
      refine at_iald C (c := 7) rfl (iv_in (n := 16) f80 (by decide) (by decide)) dX6_heard_29 ?_
      refine at_istore_n C (lv' := [(3, .int (ac_ga σ 7 (x1).toNatClampNeg)), (0, .ref (e_q E 0)), (1, .int x1), (2, .int x2)]) dX6_heard_30 hn3 rfl ?_
      refine at_aload_n C 1 dX6_heard_31 rfl ?_
      refine gf_X6_55 C dX6_heard_32 ?_
      refine at_iload_n C 2 dX6_heard_35 rfl ?_
      refine at_iload_n C 3 dX6_heard_36 rfl ?_
      refine at_iast C (c := 7) rfl (fun f => ac_ast_7 _ _ _ _ f) (iv_in (n := 16) f80 (by decide) (by decide)) dX6_heard_37 ?_
      have hJ86 := Inv.sa (c := 7) (i := (x1).toNatClampNeg) hI (iv_wk f84 (by decide) (by decide) : iv (-2147483648) 2147483647 x2)
      refine at_iload_n C 0 dX6_heard_38 rfl ?_
      exact hR _ _ _ _ dX6_heard_39 (Or.inr ⟨(by have := c78; have := c82; have : (0 : Int32).toInt = 0 := (by decide); have : (15 : Int32).toInt = 15 := (by decide); omega), rfl, rfl, hJ86⟩)
    · refine at_if_ne C 24 dX6_heard_18 (by decide) (fun c87 => absurd (iv_xne (iv_c (c := 0) (x := (0 : Int32)) (by decide)) (iv_c (c := 0) (x := (0 : Int32)) (by decide))) c87) (fun c87 => ?_)
      refine at_bipush C (-2 : Int32) dX6_heard_21 (by decide) ?_
      exact hR _ _ _ _ dX6_heard_23 (Or.inl ⟨(by have := c78; have := c82; have : (0 : Int32).toInt = 0 := (by decide); have : (15 : Int32).toInt = 15 := (by decide); omega), rfl, rfl, hI⟩)
  · refine at_if_eq C 21 dX6_heard_7 (by decide) (fun c88 => ?_) (fun c88 => absurd (iv_xne (iv_c (c := 0) (x := (0 : Int32)) (by decide)) (iv_c (c := 0) (x := (0 : Int32)) (by decide))) c88)
    refine at_bipush C (-2 : Int32) dX6_heard_21 (by decide) ?_
    exact hR _ _ _ _ dX6_heard_23 (Or.inl ⟨(by have := c78; have : (0 : Int32).toInt = 0 := (by decide); have : (15 : Int32).toInt = 15 := (by decide); omega), rfl, rfl, hI⟩)
