abbrev pc_X7_mast_0 (σ : SS) : Prop := (¬ (((ac_gi σ 15).toInt < 10)))
abbrev pc_X7_mast_1 (σ : SS) : Prop := (((ac_gi σ 15).toInt < 10))
abbrev po_X7_mast (σ : SS) (r : Int32) (σ' : SS) : Prop := (pc_X7_mast_0 σ  ∧ r = (-4 : Int32) ∧ σ = σ' ∧ Inv σ') ∨ (pc_X7_mast_1 σ  ∧ r = (((ac_gi σ 15) + (1 : Int32)) - (1 : Int32)) ∧ (ac_si σ 15 ((ac_gi σ 15) + (1 : Int32))) = σ' ∧ Inv σ')
theorem pi_X7_mast {σ : SS} {r : Int32} {u : SS} (h : po_X7_mast σ  r u) : Inv u := by
  rcases h with ⟨-, -, -, h⟩ | ⟨-, -, -, h⟩
  all_goals exact h
set_option maxHeartbeats 4000000 in
set_option maxRecDepth 100000 in
theorem ct_X7_mast (σ : SS) (hI : Inv σ) : ConI yX7_mast cX7_mast 1 (some .int) 0 (some 30) [] σ (po_X7_mast σ) := by
  refine conI_of (by decide) (fun q => Nat.le_of_ble_eq_true rfl) (fun E C en hR => ?_)
  refine at_aload_n C 0 dX7_mast_0 rfl ?_
  refine gf_X7_87 C dX7_mast_1 ?_
  refine at_bipush C (10 : Int32) dX7_mast_4 (by decide) ?_
  refine at_icmp_ne C 12 dX7_mast_6 (by decide) (fun c29 => ?_) (fun c29 => ?_)
  · have f30 : iv 0 9 (ac_gi σ 15) := (iv_neh (show iv 0 10 (ac_gi σ 15) from hI.1 15) (by decide) c29)
    refine at_aload_n C 0 dX7_mast_12 rfl ?_
    refine at_dup C dX7_mast_13 rfl ?_
    refine gf_X7_87 C dX7_mast_14 ?_
    refine at_iconst C (1 : Int32) dX7_mast_17 (by decide) ?_
    refine at_iadd C dX7_mast_18 ?_
    refine pf_X7_87 C dX7_mast_19 ?_
    have hJ31 := Inv.si (k := 15) hI (iv_wk (iv_add f30 (iv_c (c := 1) (x := (1 : Int32)) (by decide)) (by decide) (by decide)) (by decide) (by decide) : iv 0 10 ((ac_gi σ 15) + (1 : Int32)))
    refine at_aload_n C 0 dX7_mast_22 rfl ?_
    refine gf_X7_87 C dX7_mast_23 ?_
    show AT E 26 [(0, .ref (e_q E 30))] [.int ((ac_gi σ 15) + (1 : Int32))] (ac_si σ 15 ((ac_gi σ 15) + (1 : Int32)))
    refine at_iconst C (1 : Int32) dX7_mast_26 (by decide) ?_
    refine at_isub C dX7_mast_27 ?_
    exact hR _ _ _ _ dX7_mast_28 (Or.inr ⟨(by have t1 := iv_ne c29; have k0 : (10 : Int32).toInt = 10 := (by decide); have q9 := (show iv 0 10 (ac_gi σ 15) from hI.1 15).2; omega), rfl, rfl, hJ31⟩)
  · have f32 : iv 10 10 (ac_gi σ 15) := (iv_eql (iv_c (c := 10) (x := (10 : Int32)) (by decide)) c29)
    refine at_bipush C (-4 : Int32) dX7_mast_9 (by decide) ?_
    exact hR _ _ _ _ dX7_mast_11 (Or.inl ⟨(by have t1 := congrArg Int32.toInt c29; have k0 : (10 : Int32).toInt = 10 := (by decide); have q9 := (show iv 0 10 (ac_gi σ 15) from hI.1 15).2; omega), rfl, rfl, hI⟩)
abbrev pc_X7_channels_0 (σ : SS) (x1 : Int32) : Prop := (¬ ((1 ≤ (x1).toInt ∧ (x1).toInt ≤ 6)))
abbrev pc_X7_channels_1 (σ : SS) (x1 : Int32) : Prop := ((1 ≤ (x1).toInt ∧ (x1).toInt ≤ 6))
abbrev po_X7_channels (σ : SS) (x1 : Int32) (r : Int32) (σ' : SS) : Prop := (pc_X7_channels_0 σ x1 ∧ r = (-2 : Int32) ∧ σ = σ' ∧ Inv σ') ∨ (pc_X7_channels_1 σ x1 ∧ r = (ac_gi σ 16) ∧ (ac_si σ 16 x1) = σ' ∧ Inv σ')
theorem pi_X7_channels {σ : SS} {x1 : Int32} {r : Int32} {u : SS} (h : po_X7_channels σ x1 r u) : Inv u := by
  rcases h with ⟨-, -, -, h⟩ | ⟨-, -, -, h⟩
  all_goals exact h
set_option maxHeartbeats 4000000 in
set_option maxRecDepth 100000 in
theorem ct_X7_channels (σ : SS) (x1 : Int32) (hI : Inv σ) : ConI yX7_channels cX7_channels 3 (some .int) 1 (some 30) [.int x1] σ ((po_X7_channels σ x1)) := by
  refine conI_of (by decide) (fun q => Nat.le_of_ble_eq_true rfl) (fun E C en hR => ?_)
  have hn2 : 2 < e_n E := by rw [en]; decide
  refine at_iload_n C 1 dX7_channels_0 rfl ?_
  refine at_i2l C dX7_channels_1 ?_
  refine at_lconst C (1 : Int64) dX7_channels_2 (by decide) ?_
  refine at_ldc2 C (6 : Int64) dX7_channels_3 kc_X7_94 ?_
  refine at_Si C (As := [.long (x1).toInt64, .long (1 : Int64), .long (6 : Int64)]) (st := []) (ct_X7_in σ (x1).toInt64 (1 : Int64) (6 : Int64)) mb_X7_in ml_X7_90 rfl (by decide) rfl (Nat.le_of_ble_eq_true rfl) dX7_channels_6 ?_
  rintro _ _ ⟨rfl, ⟨rfl, c43⟩ | ⟨rfl, c43⟩⟩
  · have f45 : iv 1 6 x1 := (in_iv c43 (by decide) (by decide))
    refine at_if_ne C 15 dX7_channels_9 (by decide) (fun c46 => ?_) (fun c46 => absurd c46 (iv_xeq (iv_c (c := 1) (x := (1 : Int32)) (by decide)) (iv_c (c := 0) (x := (0 : Int32)) (by decide)) (by decide)))
    refine at_aload_n C 0 dX7_channels_15 rfl ?_
    refine gf_X7_7 C dX7_channels_16 ?_
    refine at_istore_n C (lv' := [(2, .int (ac_gi σ 16)), (0, .ref (e_q E 30)), (1, .int x1)]) dX7_channels_19 hn2 rfl ?_
    refine at_aload_n C 1 dX7_channels_20 rfl ?_
    refine at_iload_n C 2 dX7_channels_21 rfl ?_
    refine pf_X7_7 C dX7_channels_22 ?_
    have hJ47 := Inv.si (k := 16) hI (show iv 1 6 x1 from f45)
    refine at_iload_n C 0 dX7_channels_25 rfl ?_
    exact hR _ _ _ _ dX7_channels_26 (Or.inr ⟨(by have := c43; have : (1 : Int64).toInt = 1 := (by decide); have : (6 : Int64).toInt = 6 := (by decide); have := w64 x1; omega), rfl, rfl, hJ47⟩)
  · refine at_if_ne C 15 dX7_channels_9 (by decide) (fun c48 => absurd (iv_xne (iv_c (c := 0) (x := (0 : Int32)) (by decide)) (iv_c (c := 0) (x := (0 : Int32)) (by decide))) c48) (fun c48 => ?_)
    refine at_bipush C (-2 : Int32) dX7_channels_12 (by decide) ?_
    exact hR _ _ _ _ dX7_channels_14 (Or.inl ⟨(by have := c43; have : (1 : Int64).toInt = 1 := (by decide); have : (6 : Int64).toInt = 6 := (by decide); have := w64 x1; omega), rfl, rfl, hI⟩)
abbrev pc_X7_pair_0 (σ : SS) (x1 : Int32) (x2 : Int32) (x3 : Int32) : Prop := (¬ ((0 ≤ (x1).toInt ∧ (x1).toInt < (ac_gi σ 15).toInt) ∧ (0 ≤ (x2).toInt ∧ (x2).toInt < (ac_gi σ 15).toInt) ∧ ((x1).toInt ≠ (x2).toInt) ∧ (0 ≤ (x3).toInt ∧ (x3).toInt ≤ 2)))
abbrev pc_X7_pair_1 (σ : SS) (x1 : Int32) (x2 : Int32) (x3 : Int32) : Prop := ((0 ≤ (x1).toInt ∧ (x1).toInt < (ac_gi σ 15).toInt) ∧ (0 ≤ (x2).toInt ∧ (x2).toInt < (ac_gi σ 15).toInt) ∧ ((x1).toInt ≠ (x2).toInt) ∧ (0 ≤ (x3).toInt ∧ (x3).toInt ≤ 2))
abbrev po_X7_pair (σ : SS) (x1 : Int32) (x2 : Int32) (x3 : Int32) (r : Int32) (σ' : SS) : Prop := (pc_X7_pair_0 σ x1 x2 x3 ∧ r = (-2 : Int32) ∧ σ = σ' ∧ Inv σ') ∨ (pc_X7_pair_1 σ x1 x2 x3 ∧ r = (ac_ga σ 31 ((((10 : Int32) * x1) + x2)).toNatClampNeg) ∧ (ac_sa (ac_sa σ 31 (upd (ac_ga σ 31) ((((10 : Int32) * x1) + x2)).toNatClampNeg x3)) 31 (upd (ac_ga (ac_sa σ 31 (upd (ac_ga σ 31) ((((10 : Int32) * x1) + x2)).toNatClampNeg x3)) 31) ((((10 : Int32) * x2) + x1)).toNatClampNeg x3)) = σ' ∧ Inv σ')
theorem pi_X7_pair {σ : SS} {x1 : Int32} {x2 : Int32} {x3 : Int32} {r : Int32} {u : SS} (h : po_X7_pair σ x1 x2 x3 r u) : Inv u := by
  rcases h with ⟨-, -, -, h⟩ | ⟨-, -, -, h⟩
  all_goals exact h
set_option maxHeartbeats 4000000 in
set_option maxRecDepth 100000 in
theorem ct_X7_pair (σ : SS) (x1 : Int32) (x2 : Int32) (x3 : Int32) (hI : Inv σ) : ConI yX7_pair cX7_pair 5 (some .int) 2 (some 30) [.int x1, .int x2, .int x3] σ ((po_X7_pair σ x1 x2 x3)) := by
  refine conI_of (by decide) (fun q => Nat.le_of_ble_eq_true rfl) (fun E C en hR => ?_)
  have hn4 : 4 < e_n E := by rw [en]; decide
  refine at_aload_n C 0 dX7_pair_0 rfl ?_
  refine at_iload_n C 1 dX7_pair_1 rfl ?_
  refine at_Vi C (As := [.int x1]) (st := []) (b := 30) (ci := 7) (ct_X7_noMast σ x1 hI) mb_X7_noMast ml_X7_96 rfl rfl rfl (by decide) rfl (Nat.le_of_ble_eq_true rfl) dX7_pair_2 ?_
  rintro _ _ ⟨rfl, ⟨rfl, c127⟩ | ⟨rfl, c127⟩⟩
  · refine at_if_ne C 33 dX7_pair_5 (by decide) (fun c129 => ?_) (fun c129 => absurd c129 (iv_xeq (iv_c (c := 1) (x := (1 : Int32)) (by decide)) (iv_c (c := 0) (x := (0 : Int32)) (by decide)) (by decide)))
    refine at_bipush C (-2 : Int32) dX7_pair_33 (by decide) ?_
    exact hR _ _ _ _ dX7_pair_35 (Or.inl ⟨(by have := c127; omega), rfl, rfl, hI⟩)
  · have f130 : iv 0 9 x1 := (iv_of3 (Classical.not_not.mp c127) (show iv 0 10 (ac_gi σ 15) from hI.1 15))
    refine at_if_ne C 33 dX7_pair_5 (by decide) (fun c131 => absurd (iv_xne (iv_c (c := 0) (x := (0 : Int32)) (by decide)) (iv_c (c := 0) (x := (0 : Int32)) (by decide))) c131) (fun c131 => ?_)
    refine at_aload_n C 0 dX7_pair_8 rfl ?_
    refine at_iload_n C 2 dX7_pair_9 rfl ?_
    refine at_Vi C (As := [.int x2]) (st := []) (b := 30) (ci := 7) (ct_X7_noMast σ x2 hI) mb_X7_noMast ml_X7_96 rfl rfl rfl (by decide) rfl (Nat.le_of_ble_eq_true rfl) dX7_pair_10 ?_
    rintro _ _ ⟨rfl, ⟨rfl, c132⟩ | ⟨rfl, c132⟩⟩
    · refine at_if_ne C 33 dX7_pair_13 (by decide) (fun c134 => ?_) (fun c134 => absurd c134 (iv_xeq (iv_c (c := 1) (x := (1 : Int32)) (by decide)) (iv_c (c := 0) (x := (0 : Int32)) (by decide)) (by decide)))
      refine at_bipush C (-2 : Int32) dX7_pair_33 (by decide) ?_
      exact hR _ _ _ _ dX7_pair_35 (Or.inl ⟨(by have := c127; have := c132; omega), rfl, rfl, hI⟩)
    · have f135 : iv 0 9 x2 := (iv_of3 (Classical.not_not.mp c132) (show iv 0 10 (ac_gi σ 15) from hI.1 15))
      refine at_if_ne C 33 dX7_pair_13 (by decide) (fun c136 => absurd (iv_xne (iv_c (c := 0) (x := (0 : Int32)) (by decide)) (iv_c (c := 0) (x := (0 : Int32)) (by decide))) c136) (fun c136 => ?_)
      refine at_iload_n C 1 dX7_pair_16 rfl ?_
      refine at_iload_n C 2 dX7_pair_17 rfl ?_
      refine at_icmp_eq C 33 dX7_pair_18 (by decide) (fun c137 => ?_) (fun c137 => ?_)
      · refine at_bipush C (-2 : Int32) dX7_pair_33 (by decide) ?_
        exact hR _ _ _ _ dX7_pair_35 (Or.inl ⟨(by have t1 := congrArg Int32.toInt c137; have := c127; have := c132; omega), rfl, rfl, hI⟩)
      · refine at_iload_n C 3 dX7_pair_21 rfl ?_
        refine at_i2l C dX7_pair_22 ?_
        refine at_lconst C (0 : Int64) dX7_pair_23 (by decide) ?_
        refine at_ldc2 C (2 : Int64) dX7_pair_24 kc_X7_100 ?_
        refine at_Si C (As := [.long (x3).toInt64, .long (0 : Int64), .long (2 : Int64)]) (st := []) (ct_X7_in σ (x3).toInt64 (0 : Int64) (2 : Int64)) mb_X7_in ml_X7_90 rfl (by decide) rfl (Nat.le_of_ble_eq_true rfl) dX7_pair_27 ?_
        rintro _ _ ⟨rfl, ⟨rfl, c138⟩ | ⟨rfl, c138⟩⟩
        · have f140 : iv 0 2 x3 := (in_iv c138 (by decide) (by decide))
          refine at_if_ne C 36 dX7_pair_30 (by decide) (fun c141 => ?_) (fun c141 => absurd c141 (iv_xeq (iv_c (c := 1) (x := (1 : Int32)) (by decide)) (iv_c (c := 0) (x := (0 : Int32)) (by decide)) (by decide)))
          refine at_aload_n C 0 dX7_pair_36 rfl ?_
          refine gf_X7_16 C dX7_pair_37 ?_
          refine at_bipush C (10 : Int32) dX7_pair_40 (by decide) ?_
          refine at_iload_n C 1 dX7_pair_42 rfl ?_
          refine at_imul C dX7_pair_43 ?_
          refine at_iload_n C 2 dX7_pair_44 rfl ?_
          refine at_iadd C dX7_pair_45 ?_
          refine at_iald C (c := 31) rfl (iv_in (n := 100) (iv_add (iv_mul (iv_wk (c := 0) (iv_c (c := 10) (x := (10 : Int32)) (by decide)) (by decide) (Int.le_refl _)) f130 (by decide)) f135 (by decide) (by decide)) (by decide) (by decide)) dX7_pair_46 ?_
          refine at_istore C (lv' := [(4, .int (ac_ga σ 31 ((((10 : Int32) * x1) + x2)).toNatClampNeg)), (0, .ref (e_q E 30)), (1, .int x1), (2, .int x2), (3, .int x3)]) dX7_pair_47 hn4 rfl ?_
          refine at_aload_n C 1 dX7_pair_49 rfl ?_
          refine gf_X7_16 C dX7_pair_50 ?_
          refine at_bipush C (10 : Int32) dX7_pair_53 (by decide) ?_
          refine at_iload_n C 2 dX7_pair_55 rfl ?_
          refine at_imul C dX7_pair_56 ?_
          refine at_iload_n C 3 dX7_pair_57 rfl ?_
          refine at_iadd C dX7_pair_58 ?_
          refine at_iload_n C 4 dX7_pair_59 rfl ?_
          refine at_iast C (c := 31) rfl (fun f => ac_ast_31 _ _ _ _ f) (iv_in (n := 100) (iv_add (iv_mul (iv_wk (c := 0) (iv_c (c := 10) (x := (10 : Int32)) (by decide)) (by decide) (Int.le_refl _)) f130 (by decide)) f135 (by decide) (by decide)) (by decide) (by decide)) dX7_pair_60 ?_
          have hJ142 := Inv.sa (c := 31) (i := ((((10 : Int32) * x1) + x2)).toNatClampNeg) hI (iv_wk f140 (by decide) (by decide) : iv (-2147483648) 2147483647 x3)
          refine at_aload_n C 1 dX7_pair_61 rfl ?_
          refine gf_X7_16 C dX7_pair_62 ?_
          refine at_bipush C (10 : Int32) dX7_pair_65 (by decide) ?_
          refine at_iload_n C 3 dX7_pair_67 rfl ?_
          refine at_imul C dX7_pair_68 ?_
          refine at_iload_n C 2 dX7_pair_69 rfl ?_
          refine at_iadd C dX7_pair_70 ?_
          refine at_iload_n C 4 dX7_pair_71 rfl ?_
          refine at_iast C (c := 31) rfl (fun f => ac_ast_31 _ _ _ _ f) (iv_in (n := 100) (iv_add (iv_mul (iv_wk (c := 0) (iv_c (c := 10) (x := (10 : Int32)) (by decide)) (by decide) (Int.le_refl _)) f135 (by decide)) f130 (by decide) (by decide)) (by decide) (by decide)) dX7_pair_72 ?_
          have hJ143 := Inv.sa (c := 31) (i := ((((10 : Int32) * x2) + x1)).toNatClampNeg) hJ142 (iv_wk f140 (by decide) (by decide) : iv (-2147483648) 2147483647 x3)
          refine at_iload C 0 dX7_pair_73 rfl ?_
          exact hR _ _ _ _ dX7_pair_75 (Or.inr ⟨(by have t1 := iv_ne c137; have := c127; have := c132; have := c138; have : (0 : Int64).toInt = 0 := (by decide); have : (2 : Int64).toInt = 2 := (by decide); have := w64 x3; omega), rfl, rfl, hJ143⟩)
        · refine at_if_ne C 36 dX7_pair_30 (by decide) (fun c144 => absurd (iv_xne (iv_c (c := 0) (x := (0 : Int32)) (by decide)) (iv_c (c := 0) (x := (0 : Int32)) (by decide))) c144) (fun c144 => ?_)
          refine at_bipush C (-2 : Int32) dX7_pair_33 (by decide) ?_
          exact hR _ _ _ _ dX7_pair_35 (Or.inl ⟨(by have t1 := iv_ne c137; have := c127; have := c132; have := c138; have : (0 : Int64).toInt = 0 := (by decide); have : (2 : Int64).toInt = 2 := (by decide); have := w64 x3; omega), rfl, rfl, hI⟩)
abbrev pc_X7_bar_0 (σ : SS) (x1 : Int32) (x2 : Int32) : Prop := (¬ ((0 ≤ (x1).toInt ∧ (x1).toInt < (ac_gi σ 15).toInt) ∧ (0 ≤ (x2).toInt ∧ (x2).toInt ≤ 63)))
abbrev pc_X7_bar_1 (σ : SS) (x1 : Int32) (x2 : Int32) : Prop := ((0 ≤ (x1).toInt ∧ (x1).toInt < (ac_gi σ 15).toInt) ∧ (0 ≤ (x2).toInt ∧ (x2).toInt ≤ 63))
abbrev po_X7_bar (σ : SS) (x1 : Int32) (x2 : Int32) (r : Int32) (σ' : SS) : Prop := (pc_X7_bar_0 σ x1 x2 ∧ r = (-2 : Int32) ∧ σ = σ' ∧ Inv σ') ∨ (pc_X7_bar_1 σ x1 x2 ∧ r = (ac_ga σ 32 (x1).toNatClampNeg) ∧ (ac_sa σ 32 (upd (ac_ga σ 32) (x1).toNatClampNeg x2)) = σ' ∧ Inv σ')
theorem pi_X7_bar {σ : SS} {x1 : Int32} {x2 : Int32} {r : Int32} {u : SS} (h : po_X7_bar σ x1 x2 r u) : Inv u := by
  rcases h with ⟨-, -, -, h⟩ | ⟨-, -, -, h⟩
  all_goals exact h
set_option maxHeartbeats 4000000 in
set_option maxRecDepth 100000 in
theorem ct_X7_bar (σ : SS) (x1 : Int32) (x2 : Int32) (hI : Inv σ) : ConI yX7_bar cX7_bar 4 (some .int) 2 (some 30) [.int x1, .int x2] σ ((po_X7_bar σ x1 x2)) := by
  refine conI_of (by decide) (fun q => Nat.le_of_ble_eq_true rfl) (fun E C en hR => ?_)
  have hn3 : 3 < e_n E := by rw [en]; decide
  refine at_aload_n C 0 dX7_bar_0 rfl ?_
  refine at_iload_n C 1 dX7_bar_1 rfl ?_
  refine at_Vi C (As := [.int x1]) (st := []) (b := 30) (ci := 7) (ct_X7_noMast σ x1 hI) mb_X7_noMast ml_X7_96 rfl rfl rfl (by decide) rfl (Nat.le_of_ble_eq_true rfl) dX7_bar_2 ?_
  rintro _ _ ⟨rfl, ⟨rfl, c78⟩ | ⟨rfl, c78⟩⟩
  · refine at_if_ne C 20 dX7_bar_5 (by decide) (fun c80 => ?_) (fun c80 => absurd c80 (iv_xeq (iv_c (c := 1) (x := (1 : Int32)) (by decide)) (iv_c (c := 0) (x := (0 : Int32)) (by decide)) (by decide)))
    refine at_bipush C (-2 : Int32) dX7_bar_20 (by decide) ?_
    exact hR _ _ _ _ dX7_bar_22 (Or.inl ⟨(by have := c78; omega), rfl, rfl, hI⟩)
  · have f81 : iv 0 9 x1 := (iv_of3 (Classical.not_not.mp c78) (show iv 0 10 (ac_gi σ 15) from hI.1 15))
    refine at_if_ne C 20 dX7_bar_5 (by decide) (fun c82 => absurd (iv_xne (iv_c (c := 0) (x := (0 : Int32)) (by decide)) (iv_c (c := 0) (x := (0 : Int32)) (by decide))) c82) (fun c82 => ?_)
    refine at_iload_n C 2 dX7_bar_8 rfl ?_
    refine at_i2l C dX7_bar_9 ?_
    refine at_lconst C (0 : Int64) dX7_bar_10 (by decide) ?_
    refine at_ldc2 C (63 : Int64) dX7_bar_11 kc_X7_102 ?_
    refine at_Si C (As := [.long (x2).toInt64, .long (0 : Int64), .long (63 : Int64)]) (st := []) (ct_X7_in σ (x2).toInt64 (0 : Int64) (63 : Int64)) mb_X7_in ml_X7_90 rfl (by decide) rfl (Nat.le_of_ble_eq_true rfl) dX7_bar_14 ?_
    rintro _ _ ⟨rfl, ⟨rfl, c83⟩ | ⟨rfl, c83⟩⟩
    · have f85 : iv 0 63 x2 := (in_iv c83 (by decide) (by decide))
      refine at_if_ne C 23 dX7_bar_17 (by decide) (fun c86 => ?_) (fun c86 => absurd c86 (iv_xeq (iv_c (c := 1) (x := (1 : Int32)) (by decide)) (iv_c (c := 0) (x := (0 : Int32)) (by decide)) (by decide)))
      refine at_aload_n C 0 dX7_bar_23 rfl ?_
      refine gf_X7_20 C dX7_bar_24 ?_
      refine at_iload_n C 1 dX7_bar_27 rfl ?_
      refine at_iald C (c := 32) rfl (iv_in (n := 10) f81 (by decide) (by decide)) dX7_bar_28 ?_
      refine at_istore_n C (lv' := [(3, .int (ac_ga σ 32 (x1).toNatClampNeg)), (0, .ref (e_q E 30)), (1, .int x1), (2, .int x2)]) dX7_bar_29 hn3 rfl ?_
      refine at_aload_n C 1 dX7_bar_30 rfl ?_
      refine gf_X7_20 C dX7_bar_31 ?_
      refine at_iload_n C 2 dX7_bar_34 rfl ?_
      refine at_iload_n C 3 dX7_bar_35 rfl ?_
      refine at_iast C (c := 32) rfl (fun f => ac_ast_32 _ _ _ _ f) (iv_in (n := 10) f81 (by decide) (by decide)) dX7_bar_36 ?_
      have hJ87 := Inv.sa (c := 32) (i := (x1).toNatClampNeg) hI (iv_wk f85 (by decide) (by decide) : iv (-2147483648) 2147483647 x2)
      refine at_iload_n C 0 dX7_bar_37 rfl ?_
      exact hR _ _ _ _ dX7_bar_38 (Or.inr ⟨(by have := c78; have := c83; have : (0 : Int64).toInt = 0 := (by decide); have : (63 : Int64).toInt = 63 := (by decide); have := w64 x2; omega), rfl, rfl, hJ87⟩)
    · refine at_if_ne C 23 dX7_bar_17 (by decide) (fun c88 => absurd (iv_xne (iv_c (c := 0) (x := (0 : Int32)) (by decide)) (iv_c (c := 0) (x := (0 : Int32)) (by decide))) c88) (fun c88 => ?_)
      refine at_bipush C (-2 : Int32) dX7_bar_20 (by decide) ?_
      exact hR _ _ _ _ dX7_bar_22 (Or.inl ⟨(by have := c78; have := c83; have : (0 : Int64).toInt = 0 := (by decide); have : (63 : Int64).toInt = 63 := (by decide); have := w64 x2; omega), rfl, rfl, hI⟩)
abbrev pc_X7_limit_0 (σ : SS) (x1 : Int32) : Prop := (¬ ((1 ≤ (x1).toInt ∧ (x1).toInt ≤ 2000)))
abbrev pc_X7_limit_1 (σ : SS) (x1 : Int32) : Prop := ((1 ≤ (x1).toInt ∧ (x1).toInt ≤ 2000))
abbrev po_X7_limit (σ : SS) (x1 : Int32) (r : Int32) (σ' : SS) : Prop := (pc_X7_limit_0 σ x1 ∧ r = (-2 : Int32) ∧ σ = σ' ∧ Inv σ') ∨ (pc_X7_limit_1 σ x1 ∧ r = (ac_gi σ 17) ∧ (ac_si σ 17 x1) = σ' ∧ Inv σ')
theorem pi_X7_limit {σ : SS} {x1 : Int32} {r : Int32} {u : SS} (h : po_X7_limit σ x1 r u) : Inv u := by
  rcases h with ⟨-, -, -, h⟩ | ⟨-, -, -, h⟩
  all_goals exact h
set_option maxHeartbeats 4000000 in
set_option maxRecDepth 100000 in
theorem ct_X7_limit (σ : SS) (x1 : Int32) (hI : Inv σ) : ConI yX7_limit cX7_limit 3 (some .int) 1 (some 30) [.int x1] σ ((po_X7_limit σ x1)) := by
  refine conI_of (by decide) (fun q => Nat.le_of_ble_eq_true rfl) (fun E C en hR => ?_)
  have hn2 : 2 < e_n E := by rw [en]; decide
  refine at_iload_n C 1 dX7_limit_0 rfl ?_
  refine at_i2l C dX7_limit_1 ?_
  refine at_lconst C (1 : Int64) dX7_limit_2 (by decide) ?_
  refine at_ldc2 C (2000 : Int64) dX7_limit_3 kc_X7_104 ?_
  refine at_Si C (As := [.long (x1).toInt64, .long (1 : Int64), .long (2000 : Int64)]) (st := []) (ct_X7_in σ (x1).toInt64 (1 : Int64) (2000 : Int64)) mb_X7_in ml_X7_90 rfl (by decide) rfl (Nat.le_of_ble_eq_true rfl) dX7_limit_6 ?_
  rintro _ _ ⟨rfl, ⟨rfl, c43⟩ | ⟨rfl, c43⟩⟩
  · have f45 : iv 1 2000 x1 := (in_iv c43 (by decide) (by decide))
    refine at_if_ne C 15 dX7_limit_9 (by decide) (fun c46 => ?_) (fun c46 => absurd c46 (iv_xeq (iv_c (c := 1) (x := (1 : Int32)) (by decide)) (iv_c (c := 0) (x := (0 : Int32)) (by decide)) (by decide)))
    refine at_aload_n C 0 dX7_limit_15 rfl ?_
    refine gf_X7_13 C dX7_limit_16 ?_
    refine at_istore_n C (lv' := [(2, .int (ac_gi σ 17)), (0, .ref (e_q E 30)), (1, .int x1)]) dX7_limit_19 hn2 rfl ?_
    refine at_aload_n C 1 dX7_limit_20 rfl ?_
    refine at_iload_n C 2 dX7_limit_21 rfl ?_
    refine pf_X7_13 C dX7_limit_22 ?_
    have hJ47 := Inv.si (k := 17) hI (show iv 1 2000 x1 from f45)
    refine at_iload_n C 0 dX7_limit_25 rfl ?_
    exact hR _ _ _ _ dX7_limit_26 (Or.inr ⟨(by have := c43; have : (1 : Int64).toInt = 1 := (by decide); have : (2000 : Int64).toInt = 2000 := (by decide); have := w64 x1; omega), rfl, rfl, hJ47⟩)
  · refine at_if_ne C 15 dX7_limit_9 (by decide) (fun c48 => absurd (iv_xne (iv_c (c := 0) (x := (0 : Int32)) (by decide)) (iv_c (c := 0) (x := (0 : Int32)) (by decide))) c48) (fun c48 => ?_)
    refine at_bipush C (-2 : Int32) dX7_limit_12 (by decide) ?_
    exact hR _ _ _ _ dX7_limit_14 (Or.inl ⟨(by have := c43; have : (1 : Int64).toInt = 1 := (by decide); have : (2000 : Int64).toInt = 2000 := (by decide); have := w64 x1; omega), rfl, rfl, hI⟩)
abbrev pc_X7_old_0 (σ : SS) (x1 : Int32) (x2 : Int32) (x3 : Int32) : Prop := (¬ ((0 ≤ (x1).toInt ∧ (x1).toInt < (ac_gi σ 15).toInt) ∧ (0 ≤ (x2).toInt ∧ (x2).toInt ≤ 1000) ∧ (1 ≤ (x3).toInt ∧ (x3).toInt ≤ 10)))
abbrev pc_X7_old_1 (σ : SS) (x1 : Int32) (x2 : Int32) (x3 : Int32) : Prop := ((0 ≤ (x1).toInt ∧ (x1).toInt < (ac_gi σ 15).toInt) ∧ (0 ≤ (x2).toInt ∧ (x2).toInt ≤ 1000) ∧ (1 ≤ (x3).toInt ∧ (x3).toInt ≤ 10)) ∧ (¬ (ac_ga σ 36 (x1).toNatClampNeg) = 0)
abbrev pc_X7_old_2 (σ : SS) (x1 : Int32) (x2 : Int32) (x3 : Int32) : Prop := ((0 ≤ (x1).toInt ∧ (x1).toInt < (ac_gi σ 15).toInt) ∧ (0 ≤ (x2).toInt ∧ (x2).toInt ≤ 1000) ∧ (1 ≤ (x3).toInt ∧ (x3).toInt ≤ 10)) ∧ ((ac_ga σ 36 (x1).toNatClampNeg) = 0)
abbrev po_X7_old (σ : SS) (x1 : Int32) (x2 : Int32) (x3 : Int32) (r : Int32) (σ' : SS) : Prop := (pc_X7_old_0 σ x1 x2 x3 ∧ r = (-2 : Int32) ∧ σ = σ' ∧ Inv σ') ∨ (pc_X7_old_1 σ x1 x2 x3 ∧ r = (-3 : Int32) ∧ σ = σ' ∧ Inv σ') ∨ (pc_X7_old_2 σ x1 x2 x3 ∧ r = (1 : Int32) ∧ (ac_sa (ac_sa (ac_sa σ 36 (upd (ac_ga σ 36) (x1).toNatClampNeg (vp_nar .boolean (1 : Int32)))) 37 (upd (ac_ga (ac_sa σ 36 (upd (ac_ga σ 36) (x1).toNatClampNeg (vp_nar .boolean (1 : Int32)))) 37) (x1).toNatClampNeg x2)) 38 (upd (ac_ga (ac_sa (ac_sa σ 36 (upd (ac_ga σ 36) (x1).toNatClampNeg (vp_nar .boolean (1 : Int32)))) 37 (upd (ac_ga (ac_sa σ 36 (upd (ac_ga σ 36) (x1).toNatClampNeg (vp_nar .boolean (1 : Int32)))) 37) (x1).toNatClampNeg x2)) 38) (x1).toNatClampNeg x3)) = σ' ∧ Inv σ')
theorem pi_X7_old {σ : SS} {x1 : Int32} {x2 : Int32} {x3 : Int32} {r : Int32} {u : SS} (h : po_X7_old σ x1 x2 x3 r u) : Inv u := by
  rcases h with ⟨-, -, -, h⟩ | ⟨-, -, -, h⟩ | ⟨-, -, -, h⟩
  all_goals exact h
set_option maxHeartbeats 4000000 in
set_option maxRecDepth 100000 in
theorem ct_X7_old (σ : SS) (x1 : Int32) (x2 : Int32) (x3 : Int32) (hI : Inv σ) : ConI yX7_old cX7_old 4 (some .int) 2 (some 30) [.int x1, .int x2, .int x3] σ ((po_X7_old σ x1 x2 x3)) := by
  refine conI_of (by decide) (fun q => Nat.le_of_ble_eq_true rfl) (fun E C en hR => ?_)
  refine at_aload_n C 0 dX7_old_0 rfl ?_
  refine at_iload_n C 1 dX7_old_1 rfl ?_
  refine at_Vi C (As := [.int x1]) (st := []) (b := 30) (ci := 7) (ct_X7_noMast σ x1 hI) mb_X7_noMast ml_X7_96 rfl rfl rfl (by decide) rfl (Nat.le_of_ble_eq_true rfl) dX7_old_2 ?_
  rintro _ _ ⟨rfl, ⟨rfl, c141⟩ | ⟨rfl, c141⟩⟩
  · refine at_if_ne C 32 dX7_old_5 (by decide) (fun c143 => ?_) (fun c143 => absurd c143 (iv_xeq (iv_c (c := 1) (x := (1 : Int32)) (by decide)) (iv_c (c := 0) (x := (0 : Int32)) (by decide)) (by decide)))
    refine at_bipush C (-2 : Int32) dX7_old_32 (by decide) ?_
    exact hR _ _ _ _ dX7_old_34 (Or.inl ⟨(by have := c141; omega), rfl, rfl, hI⟩)
  · have f144 : iv 0 9 x1 := (iv_of3 (Classical.not_not.mp c141) (show iv 0 10 (ac_gi σ 15) from hI.1 15))
    refine at_if_ne C 32 dX7_old_5 (by decide) (fun c145 => absurd (iv_xne (iv_c (c := 0) (x := (0 : Int32)) (by decide)) (iv_c (c := 0) (x := (0 : Int32)) (by decide))) c145) (fun c145 => ?_)
    refine at_iload_n C 2 dX7_old_8 rfl ?_
    refine at_i2l C dX7_old_9 ?_
    refine at_lconst C (0 : Int64) dX7_old_10 (by decide) ?_
    refine at_ldc2 C (1000 : Int64) dX7_old_11 kc_X7_147 ?_
    refine at_Si C (As := [.long (x2).toInt64, .long (0 : Int64), .long (1000 : Int64)]) (st := []) (ct_X7_in σ (x2).toInt64 (0 : Int64) (1000 : Int64)) mb_X7_in ml_X7_90 rfl (by decide) rfl (Nat.le_of_ble_eq_true rfl) dX7_old_14 ?_
    rintro _ _ ⟨rfl, ⟨rfl, c146⟩ | ⟨rfl, c146⟩⟩
    · have f148 : iv 0 1000 x2 := (in_iv c146 (by decide) (by decide))
      refine at_if_eq C 32 dX7_old_17 (by decide) (fun c149 => absurd c149 (iv_xeq (iv_c (c := 1) (x := (1 : Int32)) (by decide)) (iv_c (c := 0) (x := (0 : Int32)) (by decide)) (by decide))) (fun c149 => ?_)
      refine at_iload_n C 3 dX7_old_20 rfl ?_
      refine at_i2l C dX7_old_21 ?_
      refine at_lconst C (1 : Int64) dX7_old_22 (by decide) ?_
      refine at_ldc2 C (10 : Int64) dX7_old_23 kc_X7_149 ?_
      refine at_Si C (As := [.long (x3).toInt64, .long (1 : Int64), .long (10 : Int64)]) (st := []) (ct_X7_in σ (x3).toInt64 (1 : Int64) (10 : Int64)) mb_X7_in ml_X7_90 rfl (by decide) rfl (Nat.le_of_ble_eq_true rfl) dX7_old_26 ?_
      rintro _ _ ⟨rfl, ⟨rfl, c150⟩ | ⟨rfl, c150⟩⟩
      · have f152 : iv 1 10 x3 := (in_iv c150 (by decide) (by decide))
        refine at_if_ne C 35 dX7_old_29 (by decide) (fun c153 => ?_) (fun c153 => absurd c153 (iv_xeq (iv_c (c := 1) (x := (1 : Int32)) (by decide)) (iv_c (c := 0) (x := (0 : Int32)) (by decide)) (by decide)))
        refine at_aload_n C 0 dX7_old_35 rfl ?_
        refine gf_X7_33 C dX7_old_36 ?_
        refine at_iload_n C 1 dX7_old_39 rfl ?_
        refine at_zald C (c := 36) rfl (iv_in (n := 10) f144 (by decide) (by decide)) dX7_old_40 ?_
        refine at_if_eq C 47 dX7_old_41 (by decide) (fun c154 => ?_) (fun c154 => ?_)
        · have f155 : iv 0 0 (ac_ga σ 36 (x1).toNatClampNeg) := (iv_eql (iv_c (c := 0) (x := (0 : Int32)) (by decide)) c154)
          refine at_aload_n C 0 dX7_old_47 rfl ?_
          refine gf_X7_33 C dX7_old_48 ?_
          refine at_iload_n C 1 dX7_old_51 rfl ?_
          refine at_iconst C (1 : Int32) dX7_old_52 (by decide) ?_
          refine at_zast C (c := 36) rfl (fun f => ac_ast_36 _ _ _ _ f) (iv_in (n := 10) f144 (by decide) (by decide)) dX7_old_53 ?_
          have hJ156 := Inv.sa (c := 36) (i := (x1).toNatClampNeg) hI (iv_any (vp_nar .boolean (1 : Int32)))
          refine at_aload_n C 0 dX7_old_54 rfl ?_
          refine gf_X7_36 C dX7_old_55 ?_
          refine at_iload_n C 1 dX7_old_58 rfl ?_
          refine at_iload_n C 2 dX7_old_59 rfl ?_
          refine at_iast C (c := 37) rfl (fun f => ac_ast_37 _ _ _ _ f) (iv_in (n := 10) f144 (by decide) (by decide)) dX7_old_60 ?_
          have hJ157 := Inv.sa (c := 37) (i := (x1).toNatClampNeg) hJ156 (iv_wk f148 (by decide) (by decide) : iv (-2147483648) 2147483647 x2)
          refine at_aload_n C 0 dX7_old_61 rfl ?_
          refine gf_X7_39 C dX7_old_62 ?_
          refine at_iload_n C 1 dX7_old_65 rfl ?_
          refine at_iload_n C 3 dX7_old_66 rfl ?_
          refine at_iast C (c := 38) rfl (fun f => ac_ast_38 _ _ _ _ f) (iv_in (n := 10) f144 (by decide) (by decide)) dX7_old_67 ?_
          have hJ158 := Inv.sa (c := 38) (i := (x1).toNatClampNeg) hJ157 (iv_wk f152 (by decide) (by decide) : iv (-2147483648) 2147483647 x3)
          refine at_iconst C (1 : Int32) dX7_old_68 (by decide) ?_
          exact hR _ _ _ _ dX7_old_69 (Or.inr (Or.inr ⟨⟨(by have t1 := congrArg Int32.toInt c154; have k0 : (0 : Int32).toInt = 0 := (by decide); have := c141; have := c146; have := c150; have : (0 : Int64).toInt = 0 := (by decide); have : (1 : Int64).toInt = 1 := (by decide); have : (10 : Int64).toInt = 10 := (by decide); have : (1000 : Int64).toInt = 1000 := (by decide); have := w64 x2; have := w64 x3; omega), c154⟩, rfl, rfl, hJ158⟩))
        · refine at_bipush C (-3 : Int32) dX7_old_44 (by decide) ?_
          exact hR _ _ _ _ dX7_old_46 (Or.inr (Or.inl ⟨⟨(by have t1 := iv_ne c154; have k0 : (0 : Int32).toInt = 0 := (by decide); have := c141; have := c146; have := c150; have : (0 : Int64).toInt = 0 := (by decide); have : (1 : Int64).toInt = 1 := (by decide); have : (10 : Int64).toInt = 10 := (by decide); have : (1000 : Int64).toInt = 1000 := (by decide); have := w64 x2; have := w64 x3; omega), c154⟩, rfl, rfl, hI⟩))
      · refine at_if_ne C 35 dX7_old_29 (by decide) (fun c159 => absurd (iv_xne (iv_c (c := 0) (x := (0 : Int32)) (by decide)) (iv_c (c := 0) (x := (0 : Int32)) (by decide))) c159) (fun c159 => ?_)
        refine at_bipush C (-2 : Int32) dX7_old_32 (by decide) ?_
        exact hR _ _ _ _ dX7_old_34 (Or.inl ⟨(by have := c141; have := c146; have := c150; have : (0 : Int64).toInt = 0 := (by decide); have : (1 : Int64).toInt = 1 := (by decide); have : (10 : Int64).toInt = 10 := (by decide); have : (1000 : Int64).toInt = 1000 := (by decide); have := w64 x2; have := w64 x3; omega), rfl, rfl, hI⟩)
    · refine at_if_eq C 32 dX7_old_17 (by decide) (fun c160 => ?_) (fun c160 => absurd (iv_xne (iv_c (c := 0) (x := (0 : Int32)) (by decide)) (iv_c (c := 0) (x := (0 : Int32)) (by decide))) c160)
      refine at_bipush C (-2 : Int32) dX7_old_32 (by decide) ?_
      exact hR _ _ _ _ dX7_old_34 (Or.inl ⟨(by have := c141; have := c146; have : (0 : Int64).toInt = 0 := (by decide); have : (1000 : Int64).toInt = 1000 := (by decide); have := w64 x2; omega), rfl, rfl, hI⟩)
abbrev pc_X7_clock_0 (σ : SS) (x1 : Int32) (x2 : Int32) : Prop := (¬ ((1 ≤ (x1).toInt ∧ (x1).toInt ≤ 1000) ∧ (1 ≤ (x2).toInt ∧ (x2).toInt ≤ 100) ∧ ((x1).toInt ≤ ((50 : Int32) * x2).toInt)))
abbrev pc_X7_clock_1 (σ : SS) (x1 : Int32) (x2 : Int32) : Prop := ((1 ≤ (x1).toInt ∧ (x1).toInt ≤ 1000) ∧ (1 ≤ (x2).toInt ∧ (x2).toInt ≤ 100) ∧ ((x1).toInt ≤ ((50 : Int32) * x2).toInt))
abbrev po_X7_clock (σ : SS) (x1 : Int32) (x2 : Int32) (r : Int32) (σ' : SS) : Prop := (pc_X7_clock_0 σ x1 x2 ∧ r = (-2 : Int32) ∧ σ = σ' ∧ Inv σ') ∨ (pc_X7_clock_1 σ x1 x2 ∧ r = (1 : Int32) ∧ (ac_si (ac_si σ 20 x1) 21 x2) = σ' ∧ Inv σ')
theorem pi_X7_clock {σ : SS} {x1 : Int32} {x2 : Int32} {r : Int32} {u : SS} (h : po_X7_clock σ x1 x2 r u) : Inv u := by
  rcases h with ⟨-, -, -, h⟩ | ⟨-, -, -, h⟩
  all_goals exact h
set_option maxHeartbeats 4000000 in
set_option maxRecDepth 100000 in
theorem ct_X7_clock (σ : SS) (x1 : Int32) (x2 : Int32) (hI : Inv σ) : ConI yX7_clock cX7_clock 3 (some .int) 1 (some 30) [.int x1, .int x2] σ ((po_X7_clock σ x1 x2)) := by
  refine conI_of (by decide) (fun q => Nat.le_of_ble_eq_true rfl) (fun E C en hR => ?_)
  refine at_iload_n C 1 dX7_clock_0 rfl ?_
  refine at_i2l C dX7_clock_1 ?_
  refine at_lconst C (1 : Int64) dX7_clock_2 (by decide) ?_
  refine at_ldc2 C (1000 : Int64) dX7_clock_3 kc_X7_147 ?_
  refine at_Si C (As := [.long (x1).toInt64, .long (1 : Int64), .long (1000 : Int64)]) (st := []) (ct_X7_in σ (x1).toInt64 (1 : Int64) (1000 : Int64)) mb_X7_in ml_X7_90 rfl (by decide) rfl (Nat.le_of_ble_eq_true rfl) dX7_clock_6 ?_
  rintro _ _ ⟨rfl, ⟨rfl, c106⟩ | ⟨rfl, c106⟩⟩
  · have f108 : iv 1 1000 x1 := (in_iv c106 (by decide) (by decide))
    refine at_if_eq C 32 dX7_clock_9 (by decide) (fun c109 => absurd c109 (iv_xeq (iv_c (c := 1) (x := (1 : Int32)) (by decide)) (iv_c (c := 0) (x := (0 : Int32)) (by decide)) (by decide))) (fun c109 => ?_)
    refine at_iload_n C 2 dX7_clock_12 rfl ?_
    refine at_i2l C dX7_clock_13 ?_
    refine at_lconst C (1 : Int64) dX7_clock_14 (by decide) ?_
    refine at_ldc2 C (100 : Int64) dX7_clock_15 kc_X7_151 ?_
    refine at_Si C (As := [.long (x2).toInt64, .long (1 : Int64), .long (100 : Int64)]) (st := []) (ct_X7_in σ (x2).toInt64 (1 : Int64) (100 : Int64)) mb_X7_in ml_X7_90 rfl (by decide) rfl (Nat.le_of_ble_eq_true rfl) dX7_clock_18 ?_
    rintro _ _ ⟨rfl, ⟨rfl, c110⟩ | ⟨rfl, c110⟩⟩
    · have f112 : iv 1 100 x2 := (in_iv c110 (by decide) (by decide))
      refine at_if_eq C 32 dX7_clock_21 (by decide) (fun c113 => absurd c113 (iv_xeq (iv_c (c := 1) (x := (1 : Int32)) (by decide)) (iv_c (c := 0) (x := (0 : Int32)) (by decide)) (by decide))) (fun c113 => ?_)
      refine at_iload_n C 1 dX7_clock_24 rfl ?_
      refine at_bipush C (50 : Int32) dX7_clock_25 (by decide) ?_
      refine at_iload_n C 2 dX7_clock_27 rfl ?_
      refine at_imul C dX7_clock_28 ?_
      refine at_icmp_le C 35 dX7_clock_29 (by decide) (fun c114 => ?_) (fun c114 => ?_)
      · have f115 : iv 1 5000 ((50 : Int32) * x2) := (iv_ler f108 (iv_mul (iv_wk (c := 0) (iv_c (c := 50) (x := (50 : Int32)) (by decide)) (by decide) (Int.le_refl _)) (iv_wk (c := 0) f112 (by decide) (Int.le_refl _)) (by decide)) c114)
        refine at_aload_n C 0 dX7_clock_35 rfl ?_
        refine at_iload_n C 1 dX7_clock_36 rfl ?_
        refine pf_X7_42 C dX7_clock_37 ?_
        have hJ116 := Inv.si (k := 20) hI (show iv 1 1000 x1 from f108)
        refine at_aload_n C 0 dX7_clock_40 rfl ?_
        refine at_iload_n C 2 dX7_clock_41 rfl ?_
        refine pf_X7_45 C dX7_clock_42 ?_
        have hJ117 := Inv.si (k := 21) hJ116 (show iv 1 100 x2 from f112)
        refine at_iconst C (1 : Int32) dX7_clock_45 (by decide) ?_
        exact hR _ _ _ _ dX7_clock_46 (Or.inr ⟨(by have t1 := iv_le c114; have := c106; have := c110; have : (1 : Int64).toInt = 1 := (by decide); have : (100 : Int64).toInt = 100 := (by decide); have : (1000 : Int64).toInt = 1000 := (by decide); have := w64 x1; have := w64 x2; omega), rfl, rfl, hJ117⟩)
      · have f118 : iv 0 999 ((50 : Int32) * x2) := (iv_ltl (iv_mul (iv_wk (c := 0) (iv_c (c := 50) (x := (50 : Int32)) (by decide)) (by decide) (Int.le_refl _)) (iv_wk (c := 0) f112 (by decide) (Int.le_refl _)) (by decide)) f108 (Int32.not_le.mp c114))
        refine at_bipush C (-2 : Int32) dX7_clock_32 (by decide) ?_
        exact hR _ _ _ _ dX7_clock_34 (Or.inl ⟨(by have t1 := iv_lt (Int32.not_le.mp c114); have := c106; have := c110; have : (1 : Int64).toInt = 1 := (by decide); have : (100 : Int64).toInt = 100 := (by decide); have : (1000 : Int64).toInt = 1000 := (by decide); have := w64 x1; have := w64 x2; omega), rfl, rfl, hI⟩)
    · refine at_if_eq C 32 dX7_clock_21 (by decide) (fun c119 => ?_) (fun c119 => absurd (iv_xne (iv_c (c := 0) (x := (0 : Int32)) (by decide)) (iv_c (c := 0) (x := (0 : Int32)) (by decide))) c119)
      refine at_bipush C (-2 : Int32) dX7_clock_32 (by decide) ?_
      exact hR _ _ _ _ dX7_clock_34 (Or.inl ⟨(by have := c106; have := c110; have : (1 : Int64).toInt = 1 := (by decide); have : (100 : Int64).toInt = 100 := (by decide); have : (1000 : Int64).toInt = 1000 := (by decide); have := w64 x1; have := w64 x2; omega), rfl, rfl, hI⟩)
  · refine at_if_eq C 32 dX7_clock_9 (by decide) (fun c120 => ?_) (fun c120 => absurd (iv_xne (iv_c (c := 0) (x := (0 : Int32)) (by decide)) (iv_c (c := 0) (x := (0 : Int32)) (by decide))) c120)
    refine at_bipush C (-2 : Int32) dX7_clock_32 (by decide) ?_
    exact hR _ _ _ _ dX7_clock_34 (Or.inl ⟨(by have := c106; have : (1 : Int64).toInt = 1 := (by decide); have : (1000 : Int64).toInt = 1000 := (by decide); have := w64 x1; omega), rfl, rfl, hI⟩)
abbrev pc_X7_house_0 (σ : SS) : Prop := (¬ (((ac_gi σ 25).toInt < 6)))
abbrev pc_X7_house_1 (σ : SS) : Prop := (((ac_gi σ 25).toInt < 6))
abbrev po_X7_house (σ : SS) (r : Int32) (σ' : SS) : Prop := (pc_X7_house_0 σ  ∧ r = (-4 : Int32) ∧ σ = σ' ∧ Inv σ') ∨ (pc_X7_house_1 σ  ∧ r = (((ac_gi σ 25) + (1 : Int32)) - (1 : Int32)) ∧ (ac_si σ 25 ((ac_gi σ 25) + (1 : Int32))) = σ' ∧ Inv σ')
theorem pi_X7_house {σ : SS} {r : Int32} {u : SS} (h : po_X7_house σ  r u) : Inv u := by
  rcases h with ⟨-, -, -, h⟩ | ⟨-, -, -, h⟩
  all_goals exact h
set_option maxHeartbeats 4000000 in
set_option maxRecDepth 100000 in
theorem ct_X7_house (σ : SS) (hI : Inv σ) : ConI yX7_house cX7_house 1 (some .int) 0 (some 30) [] σ (po_X7_house σ) := by
  refine conI_of (by decide) (fun q => Nat.le_of_ble_eq_true rfl) (fun E C en hR => ?_)
  refine at_aload_n C 0 dX7_house_0 rfl ?_
  refine gf_X7_183 C dX7_house_1 ?_
  refine at_bipush C (6 : Int32) dX7_house_4 (by decide) ?_
  refine at_icmp_ne C 12 dX7_house_6 (by decide) (fun c29 => ?_) (fun c29 => ?_)
  · have f30 : iv 0 5 (ac_gi σ 25) := (iv_neh (show iv 0 6 (ac_gi σ 25) from hI.1 25) (by decide) c29)
    refine at_aload_n C 0 dX7_house_12 rfl ?_
    refine at_dup C dX7_house_13 rfl ?_
    refine gf_X7_183 C dX7_house_14 ?_
    refine at_iconst C (1 : Int32) dX7_house_17 (by decide) ?_
    refine at_iadd C dX7_house_18 ?_
    refine pf_X7_183 C dX7_house_19 ?_
    have hJ31 := Inv.si (k := 25) hI (iv_wk (iv_add f30 (iv_c (c := 1) (x := (1 : Int32)) (by decide)) (by decide) (by decide)) (by decide) (by decide) : iv 0 6 ((ac_gi σ 25) + (1 : Int32)))
    refine at_aload_n C 0 dX7_house_22 rfl ?_
    refine gf_X7_183 C dX7_house_23 ?_
    show AT E 26 [(0, .ref (e_q E 30))] [.int ((ac_gi σ 25) + (1 : Int32))] (ac_si σ 25 ((ac_gi σ 25) + (1 : Int32)))
    refine at_iconst C (1 : Int32) dX7_house_26 (by decide) ?_
    refine at_isub C dX7_house_27 ?_
    exact hR _ _ _ _ dX7_house_28 (Or.inr ⟨(by have t1 := iv_ne c29; have k0 : (6 : Int32).toInt = 6 := (by decide); have q9 := (show iv 0 6 (ac_gi σ 25) from hI.1 25).2; omega), rfl, rfl, hJ31⟩)
  · have f32 : iv 6 6 (ac_gi σ 25) := (iv_eql (iv_c (c := 6) (x := (6 : Int32)) (by decide)) c29)
    refine at_bipush C (-4 : Int32) dX7_house_9 (by decide) ?_
    exact hR _ _ _ _ dX7_house_11 (Or.inl ⟨(by have t1 := congrArg Int32.toInt c29; have k0 : (6 : Int32).toInt = 6 := (by decide); have q9 := (show iv 0 6 (ac_gi σ 25) from hI.1 25).2; omega), rfl, rfl, hI⟩)
abbrev pc_X7_ask_0 (σ : SS) (x1 : Int32) (x2 : Int32) (x3 : Int32) : Prop := (¬ ((0 ≤ (x1).toInt ∧ (x1).toInt < (ac_gi σ 25).toInt) ∧ (1 ≤ (x2).toInt ∧ (x2).toInt ≤ 63) ∧ (1 ≤ (x3).toInt ∧ (x3).toInt ≤ 100000)))
abbrev pc_X7_ask_1 (σ : SS) (x1 : Int32) (x2 : Int32) (x3 : Int32) : Prop := ((0 ≤ (x1).toInt ∧ (x1).toInt < (ac_gi σ 25).toInt) ∧ (1 ≤ (x2).toInt ∧ (x2).toInt ≤ 63) ∧ (1 ≤ (x3).toInt ∧ (x3).toInt ≤ 100000)) ∧ (¬ (((ac_gi σ 26).toInt < 24)))
abbrev pc_X7_ask_2 (σ : SS) (x1 : Int32) (x2 : Int32) (x3 : Int32) : Prop := ((0 ≤ (x1).toInt ∧ (x1).toInt < (ac_gi σ 25).toInt) ∧ (1 ≤ (x2).toInt ∧ (x2).toInt ≤ 63) ∧ (1 ≤ (x3).toInt ∧ (x3).toInt ≤ 100000)) ∧ (((ac_gi σ 26).toInt < 24))
abbrev po_X7_ask (σ : SS) (x1 : Int32) (x2 : Int32) (x3 : Int32) (r : Int32) (σ' : SS) : Prop := (pc_X7_ask_0 σ x1 x2 x3 ∧ r = (-2 : Int32) ∧ σ = σ' ∧ Inv σ') ∨ (pc_X7_ask_1 σ x1 x2 x3 ∧ r = (-4 : Int32) ∧ σ = σ' ∧ Inv σ') ∨ (pc_X7_ask_2 σ x1 x2 x3 ∧ r = (((ac_gi σ 26) + (1 : Int32)) - (1 : Int32)) ∧ (ac_si (ac_sa (ac_sa (ac_sa σ 42 (upd (ac_ga σ 42) ((ac_gi σ 26)).toNatClampNeg x1)) 43 (upd (ac_ga (ac_sa σ 42 (upd (ac_ga σ 42) ((ac_gi σ 26)).toNatClampNeg x1)) 43) ((ac_gi σ 26)).toNatClampNeg x2)) 44 (upd (ac_ga (ac_sa (ac_sa σ 42 (upd (ac_ga σ 42) ((ac_gi σ 26)).toNatClampNeg x1)) 43 (upd (ac_ga (ac_sa σ 42 (upd (ac_ga σ 42) ((ac_gi σ 26)).toNatClampNeg x1)) 43) ((ac_gi σ 26)).toNatClampNeg x2)) 44) ((ac_gi σ 26)).toNatClampNeg x3)) 26 ((ac_gi σ 26) + (1 : Int32))) = σ' ∧ Inv σ')
theorem pi_X7_ask {σ : SS} {x1 : Int32} {x2 : Int32} {x3 : Int32} {r : Int32} {u : SS} (h : po_X7_ask σ x1 x2 x3 r u) : Inv u := by
  rcases h with ⟨-, -, -, h⟩ | ⟨-, -, -, h⟩ | ⟨-, -, -, h⟩
  all_goals exact h
set_option maxHeartbeats 4000000 in
set_option maxRecDepth 100000 in
theorem ct_X7_ask (σ : SS) (x1 : Int32) (x2 : Int32) (x3 : Int32) (hI : Inv σ) : ConI yX7_ask cX7_ask 4 (some .int) 2 (some 30) [.int x1, .int x2, .int x3] σ ((po_X7_ask σ x1 x2 x3)) := by
  refine conI_of (by decide) (fun q => Nat.le_of_ble_eq_true rfl) (fun E C en hR => ?_)
  refine at_aload_n C 0 dX7_ask_0 rfl ?_
  refine at_iload_n C 1 dX7_ask_1 rfl ?_
  refine at_Vi C (As := [.int x1]) (st := []) (b := 30) (ci := 7) (ct_X7_noHouse σ x1 hI) mb_X7_noHouse ml_X7_186 rfl rfl rfl (by decide) rfl (Nat.le_of_ble_eq_true rfl) dX7_ask_2 ?_
  rintro _ _ ⟨rfl, ⟨rfl, c155⟩ | ⟨rfl, c155⟩⟩
  · refine at_if_ne C 32 dX7_ask_5 (by decide) (fun c157 => ?_) (fun c157 => absurd c157 (iv_xeq (iv_c (c := 1) (x := (1 : Int32)) (by decide)) (iv_c (c := 0) (x := (0 : Int32)) (by decide)) (by decide)))
    refine at_bipush C (-2 : Int32) dX7_ask_32 (by decide) ?_
    exact hR _ _ _ _ dX7_ask_34 (Or.inl ⟨(by have := c155; have q9 := (show iv 0 24 (ac_gi σ 26) from hI.1 26).2; omega), rfl, rfl, hI⟩)
  · have f158 : iv 0 5 x1 := (iv_of3 (Classical.not_not.mp c155) (show iv 0 6 (ac_gi σ 25) from hI.1 25))
    refine at_if_ne C 32 dX7_ask_5 (by decide) (fun c159 => absurd (iv_xne (iv_c (c := 0) (x := (0 : Int32)) (by decide)) (iv_c (c := 0) (x := (0 : Int32)) (by decide))) c159) (fun c159 => ?_)
    refine at_iload_n C 2 dX7_ask_8 rfl ?_
    refine at_i2l C dX7_ask_9 ?_
    refine at_lconst C (1 : Int64) dX7_ask_10 (by decide) ?_
    refine at_ldc2 C (63 : Int64) dX7_ask_11 kc_X7_102 ?_
    refine at_Si C (As := [.long (x2).toInt64, .long (1 : Int64), .long (63 : Int64)]) (st := []) (ct_X7_in σ (x2).toInt64 (1 : Int64) (63 : Int64)) mb_X7_in ml_X7_90 rfl (by decide) rfl (Nat.le_of_ble_eq_true rfl) dX7_ask_14 ?_
    rintro _ _ ⟨rfl, ⟨rfl, c160⟩ | ⟨rfl, c160⟩⟩
    · have f162 : iv 1 63 x2 := (in_iv c160 (by decide) (by decide))
      refine at_if_eq C 32 dX7_ask_17 (by decide) (fun c163 => absurd c163 (iv_xeq (iv_c (c := 1) (x := (1 : Int32)) (by decide)) (iv_c (c := 0) (x := (0 : Int32)) (by decide)) (by decide))) (fun c163 => ?_)
      refine at_iload_n C 3 dX7_ask_20 rfl ?_
      refine at_i2l C dX7_ask_21 ?_
      refine at_lconst C (1 : Int64) dX7_ask_22 (by decide) ?_
      refine at_ldc2 C (100000 : Int64) dX7_ask_23 kc_X7_189 ?_
      refine at_Si C (As := [.long (x3).toInt64, .long (1 : Int64), .long (100000 : Int64)]) (st := []) (ct_X7_in σ (x3).toInt64 (1 : Int64) (100000 : Int64)) mb_X7_in ml_X7_90 rfl (by decide) rfl (Nat.le_of_ble_eq_true rfl) dX7_ask_26 ?_
      rintro _ _ ⟨rfl, ⟨rfl, c164⟩ | ⟨rfl, c164⟩⟩
      · have f166 : iv 1 100000 x3 := (in_iv c164 (by decide) (by decide))
        refine at_if_ne C 35 dX7_ask_29 (by decide) (fun c167 => ?_) (fun c167 => absurd c167 (iv_xeq (iv_c (c := 1) (x := (1 : Int32)) (by decide)) (iv_c (c := 0) (x := (0 : Int32)) (by decide)) (by decide)))
        refine at_aload_n C 0 dX7_ask_35 rfl ?_
        refine gf_X7_191 C dX7_ask_36 ?_
        refine at_bipush C (24 : Int32) dX7_ask_39 (by decide) ?_
        refine at_icmp_ne C 47 dX7_ask_41 (by decide) (fun c168 => ?_) (fun c168 => ?_)
        · have f169 : iv 0 23 (ac_gi σ 26) := (iv_neh (show iv 0 24 (ac_gi σ 26) from hI.1 26) (by decide) c168)
          refine at_aload_n C 0 dX7_ask_47 rfl ?_
          refine gf_X7_57 C dX7_ask_48 ?_
          refine at_aload_n C 0 dX7_ask_51 rfl ?_
          refine gf_X7_191 C dX7_ask_52 ?_
          refine at_iload_n C 1 dX7_ask_55 rfl ?_
          refine at_iast C (c := 42) rfl (fun f => ac_ast_42 _ _ _ _ f) (iv_in (n := 24) f169 (by decide) (by decide)) dX7_ask_56 ?_
          have hJ170 := Inv.sa (c := 42) (i := ((ac_gi σ 26)).toNatClampNeg) hI (iv_wk f158 (by decide) (by decide) : iv (-2147483648) 2147483647 x1)
          refine at_aload_n C 0 dX7_ask_57 rfl ?_
          refine gf_X7_60 C dX7_ask_58 ?_
          refine at_aload_n C 0 dX7_ask_61 rfl ?_
          refine gf_X7_191 C dX7_ask_62 ?_
          show AT E 65 [(0, .ref (e_q E 30)), (1, .int x1), (2, .int x2), (3, .int x3)] [.int (ac_gi σ 26), .ref (e_q E 43)] (ac_sa σ 42 (upd (ac_ga σ 42) ((ac_gi σ 26)).toNatClampNeg x1))
          refine at_iload_n C 2 dX7_ask_65 rfl ?_
          refine at_iast C (c := 43) rfl (fun f => ac_ast_43 _ _ _ _ f) (iv_in (n := 24) f169 (by decide) (by decide)) dX7_ask_66 ?_
          have hJ171 := Inv.sa (c := 43) (i := ((ac_gi σ 26)).toNatClampNeg) hJ170 (iv_wk f162 (by decide) (by decide) : iv (-2147483648) 2147483647 x2)
          refine at_aload_n C 0 dX7_ask_67 rfl ?_
          refine gf_X7_63 C dX7_ask_68 ?_
          refine at_aload_n C 0 dX7_ask_71 rfl ?_
          refine gf_X7_191 C dX7_ask_72 ?_
          show AT E 75 [(0, .ref (e_q E 30)), (1, .int x1), (2, .int x2), (3, .int x3)] [.int (ac_gi σ 26), .ref (e_q E 44)] (ac_sa (ac_sa σ 42 (upd (ac_ga σ 42) ((ac_gi σ 26)).toNatClampNeg x1)) 43 (upd (ac_ga (ac_sa σ 42 (upd (ac_ga σ 42) ((ac_gi σ 26)).toNatClampNeg x1)) 43) ((ac_gi σ 26)).toNatClampNeg x2))
          refine at_iload_n C 3 dX7_ask_75 rfl ?_
          refine at_iast C (c := 44) rfl (fun f => ac_ast_44 _ _ _ _ f) (iv_in (n := 24) f169 (by decide) (by decide)) dX7_ask_76 ?_
          have hJ172 := Inv.sa (c := 44) (i := ((ac_gi σ 26)).toNatClampNeg) hJ171 (iv_wk f166 (by decide) (by decide) : iv (-2147483648) 2147483647 x3)
          refine at_aload_n C 0 dX7_ask_77 rfl ?_
          refine at_dup C dX7_ask_78 rfl ?_
          refine gf_X7_191 C dX7_ask_79 ?_
          show AT E 82 [(0, .ref (e_q E 30)), (1, .int x1), (2, .int x2), (3, .int x3)] [.int (ac_gi σ 26), .ref (e_q E 30)] (ac_sa (ac_sa (ac_sa σ 42 (upd (ac_ga σ 42) ((ac_gi σ 26)).toNatClampNeg x1)) 43 (upd (ac_ga (ac_sa σ 42 (upd (ac_ga σ 42) ((ac_gi σ 26)).toNatClampNeg x1)) 43) ((ac_gi σ 26)).toNatClampNeg x2)) 44 (upd (ac_ga (ac_sa (ac_sa σ 42 (upd (ac_ga σ 42) ((ac_gi σ 26)).toNatClampNeg x1)) 43 (upd (ac_ga (ac_sa σ 42 (upd (ac_ga σ 42) ((ac_gi σ 26)).toNatClampNeg x1)) 43) ((ac_gi σ 26)).toNatClampNeg x2)) 44) ((ac_gi σ 26)).toNatClampNeg x3))
          refine at_iconst C (1 : Int32) dX7_ask_82 (by decide) ?_
          refine at_iadd C dX7_ask_83 ?_
          refine pf_X7_191 C dX7_ask_84 ?_
          have hJ173 := Inv.si (k := 26) hJ172 (iv_wk (iv_add f169 (iv_c (c := 1) (x := (1 : Int32)) (by decide)) (by decide) (by decide)) (by decide) (by decide) : iv 0 24 ((ac_gi σ 26) + (1 : Int32)))
          refine at_aload_n C 0 dX7_ask_87 rfl ?_
          refine gf_X7_191 C dX7_ask_88 ?_
          show AT E 91 [(0, .ref (e_q E 30)), (1, .int x1), (2, .int x2), (3, .int x3)] [.int ((ac_gi σ 26) + (1 : Int32))] (ac_si (ac_sa (ac_sa (ac_sa σ 42 (upd (ac_ga σ 42) ((ac_gi σ 26)).toNatClampNeg x1)) 43 (upd (ac_ga (ac_sa σ 42 (upd (ac_ga σ 42) ((ac_gi σ 26)).toNatClampNeg x1)) 43) ((ac_gi σ 26)).toNatClampNeg x2)) 44 (upd (ac_ga (ac_sa (ac_sa σ 42 (upd (ac_ga σ 42) ((ac_gi σ 26)).toNatClampNeg x1)) 43 (upd (ac_ga (ac_sa σ 42 (upd (ac_ga σ 42) ((ac_gi σ 26)).toNatClampNeg x1)) 43) ((ac_gi σ 26)).toNatClampNeg x2)) 44) ((ac_gi σ 26)).toNatClampNeg x3)) 26 ((ac_gi σ 26) + (1 : Int32)))
          refine at_iconst C (1 : Int32) dX7_ask_91 (by decide) ?_
          refine at_isub C dX7_ask_92 ?_
          exact hR _ _ _ _ dX7_ask_93 (Or.inr (Or.inr ⟨⟨(by have t1 := iv_ne c168; have k0 : (24 : Int32).toInt = 24 := (by decide); have := c155; have := c160; have := c164; have : (1 : Int64).toInt = 1 := (by decide); have : (63 : Int64).toInt = 63 := (by decide); have : (100000 : Int64).toInt = 100000 := (by decide); have := w64 x2; have := w64 x3; have q9 := (show iv 0 24 (ac_gi σ 26) from hI.1 26).2; omega), (by have t1 := iv_ne c168; have k0 : (24 : Int32).toInt = 24 := (by decide); have := c155; have := c160; have := c164; have : (1 : Int64).toInt = 1 := (by decide); have : (63 : Int64).toInt = 63 := (by decide); have : (100000 : Int64).toInt = 100000 := (by decide); have := w64 x2; have := w64 x3; have q9 := (show iv 0 24 (ac_gi σ 26) from hI.1 26).2; omega)⟩, rfl, rfl, hJ173⟩))
        · have f174 : iv 24 24 (ac_gi σ 26) := (iv_eql (iv_c (c := 24) (x := (24 : Int32)) (by decide)) c168)
          refine at_bipush C (-4 : Int32) dX7_ask_44 (by decide) ?_
          exact hR _ _ _ _ dX7_ask_46 (Or.inr (Or.inl ⟨⟨(by have t1 := congrArg Int32.toInt c168; have k0 : (24 : Int32).toInt = 24 := (by decide); have := c155; have := c160; have := c164; have : (1 : Int64).toInt = 1 := (by decide); have : (63 : Int64).toInt = 63 := (by decide); have : (100000 : Int64).toInt = 100000 := (by decide); have := w64 x2; have := w64 x3; have q9 := (show iv 0 24 (ac_gi σ 26) from hI.1 26).2; omega), (by have t1 := congrArg Int32.toInt c168; have k0 : (24 : Int32).toInt = 24 := (by decide); have := c155; have := c160; have := c164; have : (1 : Int64).toInt = 1 := (by decide); have : (63 : Int64).toInt = 63 := (by decide); have : (100000 : Int64).toInt = 100000 := (by decide); have := w64 x2; have := w64 x3; have q9 := (show iv 0 24 (ac_gi σ 26) from hI.1 26).2; omega)⟩, rfl, rfl, hI⟩))
      · refine at_if_ne C 35 dX7_ask_29 (by decide) (fun c175 => absurd (iv_xne (iv_c (c := 0) (x := (0 : Int32)) (by decide)) (iv_c (c := 0) (x := (0 : Int32)) (by decide))) c175) (fun c175 => ?_)
        refine at_bipush C (-2 : Int32) dX7_ask_32 (by decide) ?_
        exact hR _ _ _ _ dX7_ask_34 (Or.inl ⟨(by have := c155; have := c160; have := c164; have : (1 : Int64).toInt = 1 := (by decide); have : (63 : Int64).toInt = 63 := (by decide); have : (100000 : Int64).toInt = 100000 := (by decide); have := w64 x2; have := w64 x3; have q9 := (show iv 0 24 (ac_gi σ 26) from hI.1 26).2; omega), rfl, rfl, hI⟩)
    · refine at_if_eq C 32 dX7_ask_17 (by decide) (fun c176 => ?_) (fun c176 => absurd (iv_xne (iv_c (c := 0) (x := (0 : Int32)) (by decide)) (iv_c (c := 0) (x := (0 : Int32)) (by decide))) c176)
      refine at_bipush C (-2 : Int32) dX7_ask_32 (by decide) ?_
      exact hR _ _ _ _ dX7_ask_34 (Or.inl ⟨(by have := c155; have := c160; have : (1 : Int64).toInt = 1 := (by decide); have : (63 : Int64).toInt = 63 := (by decide); have := w64 x2; have q9 := (show iv 0 24 (ac_gi σ 26) from hI.1 26).2; omega), rfl, rfl, hI⟩)
abbrev pc_X7_price_0 (σ : SS) (x1 : Int32) (x2 : Int32) : Prop := (¬ ((0 ≤ (x1).toInt ∧ (x1).toInt < (ac_gi σ 25).toInt) ∧ (0 ≤ (x2).toInt ∧ (x2).toInt ≤ 100000)))
abbrev pc_X7_price_1 (σ : SS) (x1 : Int32) (x2 : Int32) : Prop := ((0 ≤ (x1).toInt ∧ (x1).toInt < (ac_gi σ 25).toInt) ∧ (0 ≤ (x2).toInt ∧ (x2).toInt ≤ 100000))
abbrev po_X7_price (σ : SS) (x1 : Int32) (x2 : Int32) (r : Int32) (σ' : SS) : Prop := (pc_X7_price_0 σ x1 x2 ∧ r = (-2 : Int32) ∧ σ = σ' ∧ Inv σ') ∨ (pc_X7_price_1 σ x1 x2 ∧ r = (ac_ga σ 41 (x1).toNatClampNeg) ∧ (ac_sa σ 41 (upd (ac_ga σ 41) (x1).toNatClampNeg x2)) = σ' ∧ Inv σ')
theorem pi_X7_price {σ : SS} {x1 : Int32} {x2 : Int32} {r : Int32} {u : SS} (h : po_X7_price σ x1 x2 r u) : Inv u := by
  rcases h with ⟨-, -, -, h⟩ | ⟨-, -, -, h⟩
  all_goals exact h
set_option maxHeartbeats 4000000 in
set_option maxRecDepth 100000 in
theorem ct_X7_price (σ : SS) (x1 : Int32) (x2 : Int32) (hI : Inv σ) : ConI yX7_price cX7_price 4 (some .int) 2 (some 30) [.int x1, .int x2] σ ((po_X7_price σ x1 x2)) := by
  refine conI_of (by decide) (fun q => Nat.le_of_ble_eq_true rfl) (fun E C en hR => ?_)
  have hn3 : 3 < e_n E := by rw [en]; decide
  refine at_aload_n C 0 dX7_price_0 rfl ?_
  refine at_iload_n C 1 dX7_price_1 rfl ?_
  refine at_Vi C (As := [.int x1]) (st := []) (b := 30) (ci := 7) (ct_X7_noHouse σ x1 hI) mb_X7_noHouse ml_X7_186 rfl rfl rfl (by decide) rfl (Nat.le_of_ble_eq_true rfl) dX7_price_2 ?_
  rintro _ _ ⟨rfl, ⟨rfl, c78⟩ | ⟨rfl, c78⟩⟩
  · refine at_if_ne C 20 dX7_price_5 (by decide) (fun c80 => ?_) (fun c80 => absurd c80 (iv_xeq (iv_c (c := 1) (x := (1 : Int32)) (by decide)) (iv_c (c := 0) (x := (0 : Int32)) (by decide)) (by decide)))
    refine at_bipush C (-2 : Int32) dX7_price_20 (by decide) ?_
    exact hR _ _ _ _ dX7_price_22 (Or.inl ⟨(by have := c78; omega), rfl, rfl, hI⟩)
  · have f81 : iv 0 5 x1 := (iv_of3 (Classical.not_not.mp c78) (show iv 0 6 (ac_gi σ 25) from hI.1 25))
    refine at_if_ne C 20 dX7_price_5 (by decide) (fun c82 => absurd (iv_xne (iv_c (c := 0) (x := (0 : Int32)) (by decide)) (iv_c (c := 0) (x := (0 : Int32)) (by decide))) c82) (fun c82 => ?_)
    refine at_iload_n C 2 dX7_price_8 rfl ?_
    refine at_i2l C dX7_price_9 ?_
    refine at_lconst C (0 : Int64) dX7_price_10 (by decide) ?_
    refine at_ldc2 C (100000 : Int64) dX7_price_11 kc_X7_189 ?_
    refine at_Si C (As := [.long (x2).toInt64, .long (0 : Int64), .long (100000 : Int64)]) (st := []) (ct_X7_in σ (x2).toInt64 (0 : Int64) (100000 : Int64)) mb_X7_in ml_X7_90 rfl (by decide) rfl (Nat.le_of_ble_eq_true rfl) dX7_price_14 ?_
    rintro _ _ ⟨rfl, ⟨rfl, c83⟩ | ⟨rfl, c83⟩⟩
    · have f85 : iv 0 100000 x2 := (in_iv c83 (by decide) (by decide))
      refine at_if_ne C 23 dX7_price_17 (by decide) (fun c86 => ?_) (fun c86 => absurd c86 (iv_xeq (iv_c (c := 1) (x := (1 : Int32)) (by decide)) (iv_c (c := 0) (x := (0 : Int32)) (by decide)) (by decide)))
      refine at_aload_n C 0 dX7_price_23 rfl ?_
      refine gf_X7_54 C dX7_price_24 ?_
      refine at_iload_n C 1 dX7_price_27 rfl ?_
      refine at_iald C (c := 41) rfl (iv_in (n := 6) f81 (by decide) (by decide)) dX7_price_28 ?_
      refine at_istore_n C (lv' := [(3, .int (ac_ga σ 41 (x1).toNatClampNeg)), (0, .ref (e_q E 30)), (1, .int x1), (2, .int x2)]) dX7_price_29 hn3 rfl ?_
      refine at_aload_n C 1 dX7_price_30 rfl ?_
      refine gf_X7_54 C dX7_price_31 ?_
      refine at_iload_n C 2 dX7_price_34 rfl ?_
      refine at_iload_n C 3 dX7_price_35 rfl ?_
      refine at_iast C (c := 41) rfl (fun f => ac_ast_41 _ _ _ _ f) (iv_in (n := 6) f81 (by decide) (by decide)) dX7_price_36 ?_
      have hJ87 := Inv.sa (c := 41) (i := (x1).toNatClampNeg) hI (iv_wk f85 (by decide) (by decide) : iv (-2147483648) 2147483647 x2)
      refine at_iload_n C 0 dX7_price_37 rfl ?_
      exact hR _ _ _ _ dX7_price_38 (Or.inr ⟨(by have := c78; have := c83; have : (0 : Int64).toInt = 0 := (by decide); have : (100000 : Int64).toInt = 100000 := (by decide); have := w64 x2; omega), rfl, rfl, hJ87⟩)
    · refine at_if_ne C 23 dX7_price_17 (by decide) (fun c88 => absurd (iv_xne (iv_c (c := 0) (x := (0 : Int32)) (by decide)) (iv_c (c := 0) (x := (0 : Int32)) (by decide))) c88) (fun c88 => ?_)
      refine at_bipush C (-2 : Int32) dX7_price_20 (by decide) ?_
      exact hR _ _ _ _ dX7_price_22 (Or.inl ⟨(by have := c78; have := c83; have : (0 : Int64).toInt = 0 := (by decide); have : (100000 : Int64).toInt = 100000 := (by decide); have := w64 x2; omega), rfl, rfl, hI⟩)
abbrev pc_X7_tell_0 (σ : SS) (x1 : Int32) (x2 : Int32) (x3 : Int32) : Prop := (¬ ((0 ≤ (x1).toInt ∧ (x1).toInt < (ac_gi σ 15).toInt) ∧ (0 ≤ (x2).toInt ∧ (x2).toInt ≤ 1) ∧ (-1 ≤ (x3).toInt ∧ (x3).toInt ≤ 5)))
abbrev pc_X7_tell_1 (σ : SS) (x1 : Int32) (x2 : Int32) (x3 : Int32) : Prop := ((0 ≤ (x1).toInt ∧ (x1).toInt < (ac_gi σ 15).toInt) ∧ (0 ≤ (x2).toInt ∧ (x2).toInt ≤ 1) ∧ (-1 ≤ (x3).toInt ∧ (x3).toInt ≤ 5)) ∧ (((x2).toInt = 0))
abbrev pc_X7_tell_2 (σ : SS) (x1 : Int32) (x2 : Int32) (x3 : Int32) : Prop := ((0 ≤ (x1).toInt ∧ (x1).toInt < (ac_gi σ 15).toInt) ∧ (0 ≤ (x2).toInt ∧ (x2).toInt ≤ 1) ∧ (-1 ≤ (x3).toInt ∧ (x3).toInt ≤ 5)) ∧ (((x2).toInt = 1))
abbrev po_X7_tell (σ : SS) (x1 : Int32) (x2 : Int32) (x3 : Int32) (r : Int32) (σ' : SS) : Prop := (pc_X7_tell_0 σ x1 x2 x3 ∧ r = (-10 : Int32) ∧ σ = σ' ∧ Inv σ') ∨ (pc_X7_tell_1 σ x1 x2 x3 ∧ r = (ac_ga σ 48 (x1).toNatClampNeg) ∧ (ac_sa (ac_sa σ 48 (upd (ac_ga σ 48) (x1).toNatClampNeg x3)) 49 (upd (ac_ga (ac_sa σ 48 (upd (ac_ga σ 48) (x1).toNatClampNeg x3)) 49) (x1).toNatClampNeg (ac_ga σ 49 (x1).toNatClampNeg))) = σ' ∧ Inv σ') ∨ (pc_X7_tell_2 σ x1 x2 x3 ∧ r = (ac_ga σ 49 (x1).toNatClampNeg) ∧ (ac_sa (ac_sa σ 48 (upd (ac_ga σ 48) (x1).toNatClampNeg (ac_ga σ 48 (x1).toNatClampNeg))) 49 (upd (ac_ga (ac_sa σ 48 (upd (ac_ga σ 48) (x1).toNatClampNeg (ac_ga σ 48 (x1).toNatClampNeg))) 49) (x1).toNatClampNeg x3)) = σ' ∧ Inv σ')
theorem pi_X7_tell {σ : SS} {x1 : Int32} {x2 : Int32} {x3 : Int32} {r : Int32} {u : SS} (h : po_X7_tell σ x1 x2 x3 r u) : Inv u := by
  rcases h with ⟨-, -, -, h⟩ | ⟨-, -, -, h⟩ | ⟨-, -, -, h⟩
  all_goals exact h
set_option maxHeartbeats 4000000 in
set_option maxRecDepth 100000 in
theorem ct_X7_tell (σ : SS) (x1 : Int32) (x2 : Int32) (x3 : Int32) (hI : Inv σ) : ConI yX7_tell cX7_tell 5 (some .int) 2 (some 30) [.int x1, .int x2, .int x3] σ ((po_X7_tell σ x1 x2 x3)) := by
  refine conI_of (by decide) (fun q => Nat.le_of_ble_eq_true rfl) (fun E C en hR => ?_)
  have hn4 : 4 < e_n E := by rw [en]; decide
  refine at_aload_n C 0 dX7_tell_0 rfl ?_
  refine at_iload_n C 1 dX7_tell_1 rfl ?_
  refine at_Vi C (As := [.int x1]) (st := []) (b := 30) (ci := 7) (ct_X7_noMast σ x1 hI) mb_X7_noMast ml_X7_96 rfl rfl rfl (by decide) rfl (Nat.le_of_ble_eq_true rfl) dX7_tell_2 ?_
  rintro _ _ ⟨rfl, ⟨rfl, c183⟩ | ⟨rfl, c183⟩⟩
  · refine at_if_ne C 32 dX7_tell_5 (by decide) (fun c185 => ?_) (fun c185 => absurd c185 (iv_xeq (iv_c (c := 1) (x := (1 : Int32)) (by decide)) (iv_c (c := 0) (x := (0 : Int32)) (by decide)) (by decide)))
    refine at_bipush C (-10 : Int32) dX7_tell_32 (by decide) ?_
    exact hR _ _ _ _ dX7_tell_34 (Or.inl ⟨(by have := c183; omega), rfl, rfl, hI⟩)
  · have f186 : iv 0 9 x1 := (iv_of3 (Classical.not_not.mp c183) (show iv 0 10 (ac_gi σ 15) from hI.1 15))
    refine at_if_ne C 32 dX7_tell_5 (by decide) (fun c187 => absurd (iv_xne (iv_c (c := 0) (x := (0 : Int32)) (by decide)) (iv_c (c := 0) (x := (0 : Int32)) (by decide))) c187) (fun c187 => ?_)
    refine at_iload_n C 2 dX7_tell_8 rfl ?_
    refine at_i2l C dX7_tell_9 ?_
    refine at_lconst C (0 : Int64) dX7_tell_10 (by decide) ?_
    refine at_lconst C (1 : Int64) dX7_tell_11 (by decide) ?_
    refine at_Si C (As := [.long (x2).toInt64, .long (0 : Int64), .long (1 : Int64)]) (st := []) (ct_X7_in σ (x2).toInt64 (0 : Int64) (1 : Int64)) mb_X7_in ml_X7_90 rfl (by decide) rfl (Nat.le_of_ble_eq_true rfl) dX7_tell_12 ?_
    rintro _ _ ⟨rfl, ⟨rfl, c188⟩ | ⟨rfl, c188⟩⟩
    · have f190 : iv 0 1 x2 := (in_iv c188 (by decide) (by decide))
      refine at_if_eq C 32 dX7_tell_15 (by decide) (fun c191 => absurd c191 (iv_xeq (iv_c (c := 1) (x := (1 : Int32)) (by decide)) (iv_c (c := 0) (x := (0 : Int32)) (by decide)) (by decide))) (fun c191 => ?_)
      refine at_iload_n C 3 dX7_tell_18 rfl ?_
      refine at_i2l C dX7_tell_19 ?_
      refine at_ldc2 C (-1 : Int64) dX7_tell_20 kc_X7_215 ?_
      refine at_ldc2 C (5 : Int64) dX7_tell_23 kc_X7_217 ?_
      refine at_Si C (As := [.long (x3).toInt64, .long (-1 : Int64), .long (5 : Int64)]) (st := []) (ct_X7_in σ (x3).toInt64 (-1 : Int64) (5 : Int64)) mb_X7_in ml_X7_90 rfl (by decide) rfl (Nat.le_of_ble_eq_true rfl) dX7_tell_26 ?_
      rintro _ _ ⟨rfl, ⟨rfl, c192⟩ | ⟨rfl, c192⟩⟩
      · have f194 : iv (-1) 5 x3 := (in_iv c192 (by decide) (by decide))
        refine at_if_ne C 35 dX7_tell_29 (by decide) (fun c195 => ?_) (fun c195 => absurd c195 (iv_xeq (iv_c (c := 1) (x := (1 : Int32)) (by decide)) (iv_c (c := 0) (x := (0 : Int32)) (by decide)) (by decide)))
        refine at_iload_n C 2 dX7_tell_35 rfl ?_
        refine at_if_ne C 48 dX7_tell_36 (by decide) (fun c196 => ?_) (fun c196 => ?_)
        · have f197 : iv 1 1 x2 := (iv_nel f190 (by decide) c196)
          refine at_aload_n C 0 dX7_tell_48 rfl ?_
          refine gf_X7_78 C dX7_tell_49 ?_
          refine at_iload_n C 1 dX7_tell_52 rfl ?_
          refine at_iald C (c := 49) rfl (iv_in (n := 10) f186 (by decide) (by decide)) dX7_tell_53 ?_
          refine at_istore C (lv' := [(4, .int (ac_ga σ 49 (x1).toNatClampNeg)), (0, .ref (e_q E 30)), (1, .int x1), (2, .int x2), (3, .int x3)]) dX7_tell_54 hn4 rfl ?_
          refine at_aload_n C 1 dX7_tell_56 rfl ?_
          refine gf_X7_75 C dX7_tell_57 ?_
          refine at_iload_n C 2 dX7_tell_60 rfl ?_
          refine at_iload_n C 3 dX7_tell_61 rfl ?_
          refine at_if_ne C 69 dX7_tell_62 (by decide) (fun c198 => ?_) (fun c198 => absurd c198 (iv_xeq f197 (iv_c (c := 0) (x := (0 : Int32)) (by decide)) (by decide)))
          refine at_aload_n C 1 dX7_tell_69 rfl ?_
          refine gf_X7_75 C dX7_tell_70 ?_
          refine at_iload_n C 2 dX7_tell_73 rfl ?_
          refine at_iald C (c := 48) rfl (iv_in (n := 10) f186 (by decide) (by decide)) dX7_tell_74 ?_
          refine at_iast C (c := 48) rfl (fun f => ac_ast_48 _ _ _ _ f) (iv_in (n := 10) f186 (by decide) (by decide)) dX7_tell_75 ?_
          have hJ199 := Inv.sa (c := 48) (i := (x1).toNatClampNeg) hI (show iv (-2147483648) 2147483647 (ac_ga σ 48 (x1).toNatClampNeg) from (iv_any (ac_ga σ 48 (x1).toNatClampNeg)))
          refine at_aload_n C 1 dX7_tell_76 rfl ?_
          refine gf_X7_78 C dX7_tell_77 ?_
          refine at_iload_n C 2 dX7_tell_80 rfl ?_
          refine at_iload_n C 3 dX7_tell_81 rfl ?_
          refine at_if_ne C 94 dX7_tell_82 (by decide) (fun c200 => ?_) (fun c200 => absurd c200 (iv_xeq f197 (iv_c (c := 0) (x := (0 : Int32)) (by decide)) (by decide)))
          refine at_iload_n C 4 dX7_tell_94 rfl ?_
          refine at_iast C (c := 49) rfl (fun f => ac_ast_49 _ _ _ _ f) (iv_in (n := 10) f186 (by decide) (by decide)) dX7_tell_95 ?_
          have hJ201 := Inv.sa (c := 49) (i := (x1).toNatClampNeg) hJ199 (iv_wk f194 (by decide) (by decide) : iv (-2147483648) 2147483647 x3)
          refine at_iload C 0 dX7_tell_96 rfl ?_
          exact hR _ _ _ _ dX7_tell_98 (Or.inr (Or.inr ⟨⟨(by have t1 := iv_ne c196; have k0 : (0 : Int32).toInt = 0 := (by decide); have := c183; have := c188; have := c192; have : (-1 : Int64).toInt = (-1) := (by decide); have : (0 : Int64).toInt = 0 := (by decide); have : (1 : Int64).toInt = 1 := (by decide); have : (5 : Int64).toInt = 5 := (by decide); have := w64 x2; have := w64 x3; omega), (by have t1 := iv_ne c196; have k0 : (0 : Int32).toInt = 0 := (by decide); have := c183; have := c188; have := c192; have : (-1 : Int64).toInt = (-1) := (by decide); have : (0 : Int64).toInt = 0 := (by decide); have : (1 : Int64).toInt = 1 := (by decide); have : (5 : Int64).toInt = 5 := (by decide); have := w64 x2; have := w64 x3; omega)⟩, rfl, rfl, hJ201⟩))
        · have f202 : iv 0 0 x2 := (iv_eql (iv_c (c := 0) (x := (0 : Int32)) (by decide)) c196)
          refine at_aload_n C 0 dX7_tell_39 rfl ?_
          refine gf_X7_75 C dX7_tell_40 ?_
          refine at_iload_n C 1 dX7_tell_43 rfl ?_
          refine at_iald C (c := 48) rfl (iv_in (n := 10) f186 (by decide) (by decide)) dX7_tell_44 ?_
          refine at_goto C 54 dX7_tell_45 (by decide) ?_
          refine at_istore C (lv' := [(4, .int (ac_ga σ 48 (x1).toNatClampNeg)), (0, .ref (e_q E 30)), (1, .int x1), (2, .int x2), (3, .int x3)]) dX7_tell_54 hn4 rfl ?_
          refine at_aload_n C 1 dX7_tell_56 rfl ?_
          refine gf_X7_75 C dX7_tell_57 ?_
          refine at_iload_n C 2 dX7_tell_60 rfl ?_
          refine at_iload_n C 3 dX7_tell_61 rfl ?_
          refine at_if_ne C 69 dX7_tell_62 (by decide) (fun c203 => absurd (iv_xne f202 (iv_c (c := 0) (x := (0 : Int32)) (by decide))) c203) (fun c203 => ?_)
          refine at_iload_n C 4 dX7_tell_65 rfl ?_
          refine at_goto C 75 dX7_tell_66 (by decide) ?_
          refine at_iast C (c := 48) rfl (fun f => ac_ast_48 _ _ _ _ f) (iv_in (n := 10) f186 (by decide) (by decide)) dX7_tell_75 ?_
          have hJ204 := Inv.sa (c := 48) (i := (x1).toNatClampNeg) hI (iv_wk f194 (by decide) (by decide) : iv (-2147483648) 2147483647 x3)
          refine at_aload_n C 1 dX7_tell_76 rfl ?_
          refine gf_X7_78 C dX7_tell_77 ?_
          refine at_iload_n C 2 dX7_tell_80 rfl ?_
          refine at_iload_n C 3 dX7_tell_81 rfl ?_
          refine at_if_ne C 94 dX7_tell_82 (by decide) (fun c205 => absurd (iv_xne f202 (iv_c (c := 0) (x := (0 : Int32)) (by decide))) c205) (fun c205 => ?_)
          refine at_aload_n C 1 dX7_tell_85 rfl ?_
          refine gf_X7_78 C dX7_tell_86 ?_
          refine at_iload_n C 2 dX7_tell_89 rfl ?_
          refine at_iald C (c := 49) rfl (iv_in (n := 10) f186 (by decide) (by decide)) dX7_tell_90 ?_
          show AT E 91 [(4, .int (ac_ga σ 48 (x1).toNatClampNeg)), (0, .ref (e_q E 30)), (1, .int x1), (2, .int x2), (3, .int x3)] [.int (ac_ga σ 49 (x1).toNatClampNeg), .int x1, .ref (e_q E 49)] (ac_sa σ 48 (upd (ac_ga σ 48) (x1).toNatClampNeg x3))
          refine at_goto C 95 dX7_tell_91 (by decide) ?_
          refine at_iast C (c := 49) rfl (fun f => ac_ast_49 _ _ _ _ f) (iv_in (n := 10) f186 (by decide) (by decide)) dX7_tell_95 ?_
          have hJ206 := Inv.sa (c := 49) (i := (x1).toNatClampNeg) hJ204 (show iv (-2147483648) 2147483647 (ac_ga σ 49 (x1).toNatClampNeg) from (iv_any (ac_ga σ 49 (x1).toNatClampNeg)))
          refine at_iload C 0 dX7_tell_96 rfl ?_
          exact hR _ _ _ _ dX7_tell_98 (Or.inr (Or.inl ⟨⟨(by have t1 := congrArg Int32.toInt c196; have k0 : (0 : Int32).toInt = 0 := (by decide); have := c183; have := c188; have := c192; have : (-1 : Int64).toInt = (-1) := (by decide); have : (0 : Int64).toInt = 0 := (by decide); have : (1 : Int64).toInt = 1 := (by decide); have : (5 : Int64).toInt = 5 := (by decide); have := w64 x2; have := w64 x3; omega), (by have t1 := congrArg Int32.toInt c196; have k0 : (0 : Int32).toInt = 0 := (by decide); have := c183; have := c188; have := c192; have : (-1 : Int64).toInt = (-1) := (by decide); have : (0 : Int64).toInt = 0 := (by decide); have : (1 : Int64).toInt = 1 := (by decide); have : (5 : Int64).toInt = 5 := (by decide); have := w64 x2; have := w64 x3; omega)⟩, rfl, rfl, hJ206⟩))
      · refine at_if_ne C 35 dX7_tell_29 (by decide) (fun c207 => absurd (iv_xne (iv_c (c := 0) (x := (0 : Int32)) (by decide)) (iv_c (c := 0) (x := (0 : Int32)) (by decide))) c207) (fun c207 => ?_)
        refine at_bipush C (-10 : Int32) dX7_tell_32 (by decide) ?_
        exact hR _ _ _ _ dX7_tell_34 (Or.inl ⟨(by have := c183; have := c188; have := c192; have : (-1 : Int64).toInt = (-1) := (by decide); have : (0 : Int64).toInt = 0 := (by decide); have : (1 : Int64).toInt = 1 := (by decide); have : (5 : Int64).toInt = 5 := (by decide); have := w64 x2; have := w64 x3; omega), rfl, rfl, hI⟩)
    · refine at_if_eq C 32 dX7_tell_15 (by decide) (fun c208 => ?_) (fun c208 => absurd (iv_xne (iv_c (c := 0) (x := (0 : Int32)) (by decide)) (iv_c (c := 0) (x := (0 : Int32)) (by decide))) c208)
      refine at_bipush C (-10 : Int32) dX7_tell_32 (by decide) ?_
      exact hR _ _ _ _ dX7_tell_34 (Or.inl ⟨(by have := c183; have := c188; have : (0 : Int64).toInt = 0 := (by decide); have : (1 : Int64).toInt = 1 := (by decide); have := w64 x2; omega), rfl, rfl, hI⟩)
abbrev pc_X7_heard_0 (σ : SS) (x1 : Int32) (x2 : Int32) : Prop := (¬ ((0 ≤ (x1).toInt ∧ (x1).toInt ≤ 15) ∧ (0 ≤ (x2).toInt ∧ (x2).toInt < ((1 : Int32) <<< (ac_gi σ 15 &&& 31)).toInt)))
abbrev pc_X7_heard_1 (σ : SS) (x1 : Int32) (x2 : Int32) : Prop := ((0 ≤ (x1).toInt ∧ (x1).toInt ≤ 15) ∧ (0 ≤ (x2).toInt ∧ (x2).toInt < ((1 : Int32) <<< (ac_gi σ 15 &&& 31)).toInt))
abbrev po_X7_heard (σ : SS) (x1 : Int32) (x2 : Int32) (r : Int32) (σ' : SS) : Prop := (pc_X7_heard_0 σ x1 x2 ∧ r = (-2 : Int32) ∧ σ = σ' ∧ Inv σ') ∨ (pc_X7_heard_1 σ x1 x2 ∧ r = (ac_ga σ 51 (x1).toNatClampNeg) ∧ (ac_sa σ 51 (upd (ac_ga σ 51) (x1).toNatClampNeg x2)) = σ' ∧ Inv σ')
theorem pi_X7_heard {σ : SS} {x1 : Int32} {x2 : Int32} {r : Int32} {u : SS} (h : po_X7_heard σ x1 x2 r u) : Inv u := by
  rcases h with ⟨-, -, -, h⟩ | ⟨-, -, -, h⟩
  all_goals exact h
set_option maxHeartbeats 4000000 in
set_option maxRecDepth 100000 in
theorem ct_X7_heard (σ : SS) (x1 : Int32) (x2 : Int32) (hI : Inv σ) : ConI yX7_heard cX7_heard 4 (some .int) 1 (some 30) [.int x1, .int x2] σ ((po_X7_heard σ x1 x2)) := by
  refine conI_of (by decide) (fun q => Nat.le_of_ble_eq_true rfl) (fun E C en hR => ?_)
  have hn3 : 3 < e_n E := by rw [en]; decide
  refine at_iload_n C 1 dX7_heard_0 rfl ?_
  refine at_i2l C dX7_heard_1 ?_
  refine at_lconst C (0 : Int64) dX7_heard_2 (by decide) ?_
  refine at_ldc2 C (15 : Int64) dX7_heard_3 kc_X7_231 ?_
  refine at_Si C (As := [.long (x1).toInt64, .long (0 : Int64), .long (15 : Int64)]) (st := []) (ct_X7_in σ (x1).toInt64 (0 : Int64) (15 : Int64)) mb_X7_in ml_X7_90 rfl (by decide) rfl (Nat.le_of_ble_eq_true rfl) dX7_heard_6 ?_
  rintro _ _ ⟨rfl, ⟨rfl, c78⟩ | ⟨rfl, c78⟩⟩
  · have f80 : iv 0 15 x1 := (in_iv c78 (by decide) (by decide))
    refine at_if_eq C 20 dX7_heard_9 (by decide) (fun c81 => absurd c81 (iv_xeq (iv_c (c := 1) (x := (1 : Int32)) (by decide)) (iv_c (c := 0) (x := (0 : Int32)) (by decide)) (by decide))) (fun c81 => ?_)
    refine at_aload_n C 0 dX7_heard_12 rfl ?_
    refine at_iload_n C 2 dX7_heard_13 rfl ?_
    refine at_Vi C (As := [.int x2]) (st := []) (b := 30) (ci := 7) (ct_X7_noSet σ x2 hI) mb_X7_noSet ml_X7_131 rfl rfl rfl (by decide) rfl (Nat.le_of_ble_eq_true rfl) dX7_heard_14 ?_
    rintro _ _ ⟨rfl, ⟨rfl, c82⟩ | ⟨rfl, c82⟩⟩
    · refine at_if_eq C 23 dX7_heard_17 (by decide) (fun c84 => absurd c84 (iv_xeq (iv_c (c := 1) (x := (1 : Int32)) (by decide)) (iv_c (c := 0) (x := (0 : Int32)) (by decide)) (by decide))) (fun c84 => ?_)
      refine at_bipush C (-2 : Int32) dX7_heard_20 (by decide) ?_
      exact hR _ _ _ _ dX7_heard_22 (Or.inl ⟨(by have := c78; have := c82; have : (0 : Int64).toInt = 0 := (by decide); have : (15 : Int64).toInt = 15 := (by decide); have := w64 x1; omega), rfl, rfl, hI⟩)
    · have f85 : iv 0 1023 x2 := (iv_of3 (Classical.not_not.mp c82) (iv_shl1 (a := 0) (b := 10) (show iv 0 10 (ac_gi σ 15) from hI.1 15) (by decide)))
      refine at_if_eq C 23 dX7_heard_17 (by decide) (fun c86 => ?_) (fun c86 => absurd (iv_xne (iv_c (c := 0) (x := (0 : Int32)) (by decide)) (iv_c (c := 0) (x := (0 : Int32)) (by decide))) c86)
      refine at_aload_n C 0 dX7_heard_23 rfl ?_
      refine gf_X7_84 C dX7_heard_24 ?_
      refine at_iload_n C 1 dX7_heard_27 rfl ?_
      refine at_iald C (c := 51) rfl (iv_in (n := 16) f80 (by decide) (by decide)) dX7_heard_28 ?_
      refine at_istore_n C (lv' := [(3, .int (ac_ga σ 51 (x1).toNatClampNeg)), (0, .ref (e_q E 30)), (1, .int x1), (2, .int x2)]) dX7_heard_29 hn3 rfl ?_
      refine at_aload_n C 1 dX7_heard_30 rfl ?_
      refine gf_X7_84 C dX7_heard_31 ?_
      refine at_iload_n C 2 dX7_heard_34 rfl ?_
      refine at_iload_n C 3 dX7_heard_35 rfl ?_
      refine at_iast C (c := 51) rfl (fun f => ac_ast_51 _ _ _ _ f) (iv_in (n := 16) f80 (by decide) (by decide)) dX7_heard_36 ?_
      have hJ87 := Inv.sa (c := 51) (i := (x1).toNatClampNeg) hI (iv_wk f85 (by decide) (by decide) : iv (-2147483648) 2147483647 x2)
      refine at_iload_n C 0 dX7_heard_37 rfl ?_
      exact hR _ _ _ _ dX7_heard_38 (Or.inr ⟨(by have := c78; have := c82; have : (0 : Int64).toInt = 0 := (by decide); have : (15 : Int64).toInt = 15 := (by decide); have := w64 x1; omega), rfl, rfl, hJ87⟩)
  · refine at_if_eq C 20 dX7_heard_9 (by decide) (fun c88 => ?_) (fun c88 => absurd (iv_xne (iv_c (c := 0) (x := (0 : Int32)) (by decide)) (iv_c (c := 0) (x := (0 : Int32)) (by decide))) c88)
    refine at_bipush C (-2 : Int32) dX7_heard_20 (by decide) ?_
    exact hR _ _ _ _ dX7_heard_22 (Or.inl ⟨(by have := c78; have : (0 : Int64).toInt = 0 := (by decide); have : (15 : Int64).toInt = 15 := (by decide); have := w64 x1; omega), rfl, rfl, hI⟩)
