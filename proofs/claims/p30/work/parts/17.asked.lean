set_option maxHeartbeats 4000000 in
set_option maxRecDepth 100000 in
theorem ct_X6_fits (σ : SS) (x1 : Int32) (hI : Inv σ) : ConI yX6_fits cX6_fits 2 (some .int) 14 (some 0) [.int x1] σ (fun r σ' => Gd σ σ' ∧ iv (-2147483648) 2147483647 r) := by
  refine conI_of (by decide) (fun q => Nat.le_of_ble_eq_true rfl) (fun E C en hR => ?_)
  have hG0 : Gd σ σ := Gd.rf hI
  refine at_aload_n C 0 dX6_fits_0 rfl ?_
  refine gf_X6_12 C dX6_fits_1 ?_
  refine at_iload_n C 1 dX6_fits_4 rfl ?_
  refine at_Vi C (As := [.int x1]) (st := []) (b := 1) (ci := 0) (ct_X0_isSet σ x1) mb_X0_isSet ml_X6_95 rfl rfl rfl (by decide) rfl (Nat.le_of_ble_eq_true rfl) dX6_fits_5 ?_
  rintro _ _ ⟨rfl, ⟨rfl, c71⟩ | ⟨rfl, c71⟩⟩
  · have f73 : iv 0 1023 x1 := (iv_of3 c71 (iv_shl1 (a := 0) (b := 10) (show iv 0 10 (ac_gi σ 0) from hI.1 0) (by decide)))
    refine at_if_eq C 22 dX6_fits_8 (by decide) (fun c74 => absurd c74 (iv_xeq (iv_c (c := 1) (x := (1 : Int32)) (by decide)) (iv_c (c := 0) (x := (0 : Int32)) (by decide)) (by decide))) (fun c74 => ?_)
    refine at_aload_n C 0 dX6_fits_11 rfl ?_
    refine gf_X6_21 C dX6_fits_12 ?_
    refine at_iload_n C 1 dX6_fits_15 rfl ?_
    refine at_Vi C (As := [.int x1]) (st := []) (b := 2) (ci := 4) (ct_X4_lookFor σ x1 hI) mb_X4_lookFor ml_X6_98 rfl rfl rfl (by decide) rfl (Nat.le_of_ble_eq_true rfl) dX6_fits_16 ?_
    rintro r75 u77 ⟨hg78, f76⟩
    have hG79 := hG0.tr hg78
    refine at_goto C 24 dX6_fits_19 (by decide) ?_
    exact hR _ _ _ _ dX6_fits_24 ⟨hG79, (show iv (-2147483648) 2147483647 r75 from f76)⟩
  · refine at_if_eq C 22 dX6_fits_8 (by decide) (fun c80 => ?_) (fun c80 => absurd (iv_xne (iv_c (c := 0) (x := (0 : Int32)) (by decide)) (iv_c (c := 0) (x := (0 : Int32)) (by decide))) c80)
    refine at_bipush C (-2 : Int32) dX6_fits_22 (by decide) ?_
    exact hR _ _ _ _ dX6_fits_24 ⟨hG0, (iv_wk (iv_c (c := (-2)) (x := (-2 : Int32)) (by decide)) (by decide) (by decide) : iv (-2147483648) 2147483647 (-2 : Int32))⟩
set_option maxHeartbeats 4000000 in
set_option maxRecDepth 100000 in
theorem ct_X6_tries (σ : SS) (x1 : Int32) (hI : Inv σ) : ConI yX6_tries cX6_tries 2 (some .int) 14 (some 0) [.int x1] σ (fun r σ' => Gd σ σ' ∧ iv (-2147483648) 2147483647 r) := by
  refine conI_of (by decide) (fun q => Nat.le_of_ble_eq_true rfl) (fun E C en hR => ?_)
  have hG0 : Gd σ σ := Gd.rf hI
  refine at_aload_n C 0 dX6_tries_0 rfl ?_
  refine gf_X6_12 C dX6_tries_1 ?_
  refine at_iload_n C 1 dX6_tries_4 rfl ?_
  refine at_Vi C (As := [.int x1]) (st := []) (b := 1) (ci := 0) (ct_X0_isSet σ x1) mb_X0_isSet ml_X6_95 rfl rfl rfl (by decide) rfl (Nat.le_of_ble_eq_true rfl) dX6_tries_5 ?_
  rintro _ _ ⟨rfl, ⟨rfl, c71⟩ | ⟨rfl, c71⟩⟩
  · have f73 : iv 0 1023 x1 := (iv_of3 c71 (iv_shl1 (a := 0) (b := 10) (show iv 0 10 (ac_gi σ 0) from hI.1 0) (by decide)))
    refine at_if_ne C 14 dX6_tries_8 (by decide) (fun c74 => ?_) (fun c74 => absurd c74 (iv_xeq (iv_c (c := 1) (x := (1 : Int32)) (by decide)) (iv_c (c := 0) (x := (0 : Int32)) (by decide)) (by decide)))
    refine at_aload_n C 0 dX6_tries_14 rfl ?_
    refine gf_X6_21 C dX6_tries_15 ?_
    refine at_iload_n C 1 dX6_tries_18 rfl ?_
    refine at_Vi C (As := [.int x1]) (st := []) (b := 2) (ci := 4) (ct_X4_lookFor σ x1 hI) mb_X4_lookFor ml_X6_98 rfl rfl rfl (by decide) rfl (Nat.le_of_ble_eq_true rfl) dX6_tries_19 ?_
    rintro r75 u77 ⟨hg78, f76⟩
    have hG79 := hG0.tr hg78
    refine at_pop C dX6_tries_22 rfl ?_
    refine at_aload_n C 0 dX6_tries_23 rfl ?_
    refine gf_X6_21 C dX6_tries_24 ?_
    refine gf_X6_102 C dX6_tries_27 ?_
    exact hR _ _ _ _ dX6_tries_30 ⟨hG79, (show iv (-2147483648) 2147483647 (ac_gi u77 10) from (iv_any (ac_gi u77 10)))⟩
  · refine at_if_ne C 14 dX6_tries_8 (by decide) (fun c80 => absurd (iv_xne (iv_c (c := 0) (x := (0 : Int32)) (by decide)) (iv_c (c := 0) (x := (0 : Int32)) (by decide))) c80) (fun c80 => ?_)
    refine at_bipush C (-2 : Int32) dX6_tries_11 (by decide) ?_
    exact hR _ _ _ _ dX6_tries_13 ⟨hG0, (iv_wk (iv_c (c := (-2)) (x := (-2 : Int32)) (by decide)) (by decide) (by decide) : iv (-2147483648) 2147483647 (-2 : Int32))⟩
set_option maxHeartbeats 4000000 in
set_option maxRecDepth 100000 in
theorem ct_X6_packing (σ : SS) (x1 : Int32) (x2 : Int32) (hI : Inv σ) : ConI yX6_packing cX6_packing 3 (some .int) 17 (some 0) [.int x1, .int x2] σ (fun r σ' => Gd σ σ' ∧ iv (-2147483648) 2147483647 r) := by
  refine conI_of (by decide) (fun q => Nat.le_of_ble_eq_true rfl) (fun E C en hR => ?_)
  have hG0 : Gd σ σ := Gd.rf hI
  refine at_aload_n C 0 dX6_packing_0 rfl ?_
  refine gf_X6_12 C dX6_packing_1 ?_
  refine at_iload_n C 1 dX6_packing_4 rfl ?_
  refine at_Vi C (As := [.int x1]) (st := []) (b := 1) (ci := 0) (ct_X0_isSet σ x1) mb_X0_isSet ml_X6_95 rfl rfl rfl (by decide) rfl (Nat.le_of_ble_eq_true rfl) dX6_packing_5 ?_
  rintro _ _ ⟨rfl, ⟨rfl, c134⟩ | ⟨rfl, c134⟩⟩
  · have f136 : iv 0 1023 x1 := (iv_of3 c134 (iv_shl1 (a := 0) (b := 10) (show iv 0 10 (ac_gi σ 0) from hI.1 0) (by decide)))
    refine at_if_eq C 30 dX6_packing_8 (by decide) (fun c137 => absurd c137 (iv_xeq (iv_c (c := 1) (x := (1 : Int32)) (by decide)) (iv_c (c := 0) (x := (0 : Int32)) (by decide)) (by decide))) (fun c137 => ?_)
    refine at_aload_n C 0 dX6_packing_11 rfl ?_
    refine gf_X6_12 C dX6_packing_12 ?_
    refine at_iload_n C 2 dX6_packing_15 rfl ?_
    refine at_Vi C (As := [.int x2]) (st := []) (b := 1) (ci := 0) (ct_X0_isMast σ x2) mb_X0_isMast ml_X6_73 rfl rfl rfl (by decide) rfl (Nat.le_of_ble_eq_true rfl) dX6_packing_16 ?_
    rintro _ _ ⟨rfl, ⟨rfl, c138⟩ | ⟨rfl, c138⟩⟩
    · have f140 : iv 0 9 x2 := (iv_of3 c138 (show iv 0 10 (ac_gi σ 0) from hI.1 0))
      refine at_if_eq C 30 dX6_packing_19 (by decide) (fun c141 => absurd c141 (iv_xeq (iv_c (c := 1) (x := (1 : Int32)) (by decide)) (iv_c (c := 0) (x := (0 : Int32)) (by decide)) (by decide))) (fun c141 => ?_)
      refine at_iload_n C 1 dX6_packing_22 rfl ?_
      refine at_iload_n C 2 dX6_packing_23 rfl ?_
      refine at_Si C (As := [.int x1, .int x2]) (st := []) (ct_X6_has σ x1 x2) mb_X6_has ml_X6_105 rfl (by decide) rfl (Nat.le_of_ble_eq_true rfl) dX6_packing_24 ?_
      rintro _ _ ⟨rfl, ⟨rfl, c142⟩ | ⟨rfl, c142⟩⟩
      · refine at_if_ne C 33 dX6_packing_27 (by decide) (fun c144 => ?_) (fun c144 => absurd c144 (iv_xeq (iv_c (c := 1) (x := (1 : Int32)) (by decide)) (iv_c (c := 0) (x := (0 : Int32)) (by decide)) (by decide)))
        refine at_aload_n C 0 dX6_packing_33 rfl ?_
        refine gf_X6_28 C dX6_packing_34 ?_
        refine at_iload_n C 1 dX6_packing_37 rfl ?_
        refine at_iload_n C 2 dX6_packing_38 rfl ?_
        refine at_Vi C (As := [.int x1, .int x2]) (st := []) (b := 3) (ci := 3) (ct_X3_firstChannel σ x1 x2 hI) mb_X3_firstChannel ml_X6_109 rfl rfl rfl (by decide) rfl (Nat.le_of_ble_eq_true rfl) dX6_packing_39 ?_
        rintro r145 u147 ⟨hg148, f146⟩
        have hG149 := hG0.tr hg148
        exact hR _ _ _ _ dX6_packing_42 ⟨hG149, (show iv (-2147483648) 2147483647 r145 from f146)⟩
      · refine at_if_ne C 33 dX6_packing_27 (by decide) (fun c150 => absurd (iv_xne (iv_c (c := 0) (x := (0 : Int32)) (by decide)) (iv_c (c := 0) (x := (0 : Int32)) (by decide))) c150) (fun c150 => ?_)
        refine at_bipush C (-2 : Int32) dX6_packing_30 (by decide) ?_
        exact hR _ _ _ _ dX6_packing_32 ⟨hG0, (iv_wk (iv_c (c := (-2)) (x := (-2 : Int32)) (by decide)) (by decide) (by decide) : iv (-2147483648) 2147483647 (-2 : Int32))⟩
    · refine at_if_eq C 30 dX6_packing_19 (by decide) (fun c151 => ?_) (fun c151 => absurd (iv_xne (iv_c (c := 0) (x := (0 : Int32)) (by decide)) (iv_c (c := 0) (x := (0 : Int32)) (by decide))) c151)
      refine at_bipush C (-2 : Int32) dX6_packing_30 (by decide) ?_
      exact hR _ _ _ _ dX6_packing_32 ⟨hG0, (iv_wk (iv_c (c := (-2)) (x := (-2 : Int32)) (by decide)) (by decide) (by decide) : iv (-2147483648) 2147483647 (-2 : Int32))⟩
  · refine at_if_eq C 30 dX6_packing_8 (by decide) (fun c152 => ?_) (fun c152 => absurd (iv_xne (iv_c (c := 0) (x := (0 : Int32)) (by decide)) (iv_c (c := 0) (x := (0 : Int32)) (by decide))) c152)
    refine at_bipush C (-2 : Int32) dX6_packing_30 (by decide) ?_
    exact hR _ _ _ _ dX6_packing_32 ⟨hG0, (iv_wk (iv_c (c := (-2)) (x := (-2 : Int32)) (by decide)) (by decide) (by decide) : iv (-2147483648) 2147483647 (-2 : Int32))⟩
set_option maxHeartbeats 4000000 in
set_option maxRecDepth 100000 in
theorem ct_X6_reason (σ : SS) (x1 : Int32) (hI : Inv σ) : ConI yX6_reason cX6_reason 2 (some .int) 17 (some 0) [.int x1] σ (fun r σ' => Gd σ σ' ∧ iv (-2147483648) 2147483647 r) := by
  refine conI_of (by decide) (fun q => Nat.le_of_ble_eq_true rfl) (fun E C en hR => ?_)
  have hG0 : Gd σ σ := Gd.rf hI
  refine at_aload_n C 0 dX6_reason_0 rfl ?_
  refine gf_X6_12 C dX6_reason_1 ?_
  refine at_iload_n C 1 dX6_reason_4 rfl ?_
  refine at_Vi C (As := [.int x1]) (st := []) (b := 1) (ci := 0) (ct_X0_isSet σ x1) mb_X0_isSet ml_X6_95 rfl rfl rfl (by decide) rfl (Nat.le_of_ble_eq_true rfl) dX6_reason_5 ?_
  rintro _ _ ⟨rfl, ⟨rfl, c127⟩ | ⟨rfl, c127⟩⟩
  · have f129 : iv 0 1023 x1 := (iv_of3 c127 (iv_shl1 (a := 0) (b := 10) (show iv 0 10 (ac_gi σ 0) from hI.1 0) (by decide)))
    refine at_if_ne C 14 dX6_reason_8 (by decide) (fun c130 => ?_) (fun c130 => absurd c130 (iv_xeq (iv_c (c := 1) (x := (1 : Int32)) (by decide)) (iv_c (c := 0) (x := (0 : Int32)) (by decide)) (by decide)))
    refine at_aload_n C 0 dX6_reason_14 rfl ?_
    refine gf_X6_28 C dX6_reason_15 ?_
    refine at_iload_n C 1 dX6_reason_18 rfl ?_
    refine at_Vi C (As := [.int x1]) (st := []) (b := 3) (ci := 3) (ct_X3_canPack σ x1 hI) mb_X3_canPack ml_X6_112 rfl rfl rfl (by decide) rfl (Nat.le_of_ble_eq_true rfl) dX6_reason_19 ?_
    rintro _ u133 ⟨hg132, rfl | rfl⟩
    · have hG135 := hG0.tr hg132
      refine at_if_eq C 30 dX6_reason_22 (by decide) (fun c136 => ?_) (fun c136 => absurd (iv_xne (iv_c (c := 0) (x := (0 : Int32)) (by decide)) (iv_c (c := 0) (x := (0 : Int32)) (by decide))) c136)
      refine at_aload_n C 0 dX6_reason_30 rfl ?_
      refine gf_X6_28 C dX6_reason_31 ?_
      refine at_iload_n C 1 dX6_reason_34 rfl ?_
      refine at_Vi C (As := [.int x1]) (st := []) (b := 3) (ci := 3) (ct_X3_leastPartThatFails u133 x1 hg132.1 (show iv 0 1023 x1 from f129)) mb_X3_leastPartThatFails ml_X6_115 rfl rfl rfl (by decide) rfl (Nat.le_of_ble_eq_true rfl) dX6_reason_35 ?_
      rintro r137 u139 ⟨hg140, f138⟩
      have hG141 := hG135.tr hg140
      exact hR _ _ _ _ dX6_reason_38 ⟨hG141, (show iv (-2147483648) 2147483647 r137 from f138)⟩
    · have hG142 := hG0.tr hg132
      refine at_if_eq C 30 dX6_reason_22 (by decide) (fun c143 => absurd c143 (iv_xeq (iv_c (c := 1) (x := (1 : Int32)) (by decide)) (iv_c (c := 0) (x := (0 : Int32)) (by decide)) (by decide))) (fun c143 => ?_)
      refine at_bipush C (-3 : Int32) dX6_reason_25 (by decide) ?_
      refine at_goto C 38 dX6_reason_27 (by decide) ?_
      exact hR _ _ _ _ dX6_reason_38 ⟨hG142, (iv_wk (iv_c (c := (-3)) (x := (-3 : Int32)) (by decide)) (by decide) (by decide) : iv (-2147483648) 2147483647 (-3 : Int32))⟩
  · refine at_if_ne C 14 dX6_reason_8 (by decide) (fun c144 => absurd (iv_xne (iv_c (c := 0) (x := (0 : Int32)) (by decide)) (iv_c (c := 0) (x := (0 : Int32)) (by decide))) c144) (fun c144 => ?_)
    refine at_bipush C (-2 : Int32) dX6_reason_11 (by decide) ?_
    exact hR _ _ _ _ dX6_reason_13 ⟨hG0, (iv_wk (iv_c (c := (-2)) (x := (-2 : Int32)) (by decide)) (by decide) (by decide) : iv (-2147483648) 2147483647 (-2 : Int32))⟩
set_option maxHeartbeats 4000000 in
set_option maxRecDepth 100000 in
theorem ct_X6_spare (σ : SS) (x1 : Int32) (hI : Inv σ) : ConI yX6_spare cX6_spare 2 (some .int) 17 (some 0) [.int x1] σ (fun r σ' => Gd σ σ' ∧ iv (-2147483648) 2147483647 r) := by
  refine conI_of (by decide) (fun q => Nat.le_of_ble_eq_true rfl) (fun E C en hR => ?_)
  have hG0 : Gd σ σ := Gd.rf hI
  refine at_aload_n C 0 dX6_spare_0 rfl ?_
  refine gf_X6_12 C dX6_spare_1 ?_
  refine at_iload_n C 1 dX6_spare_4 rfl ?_
  refine at_Vi C (As := [.int x1]) (st := []) (b := 1) (ci := 0) (ct_X0_isSet σ x1) mb_X0_isSet ml_X6_95 rfl rfl rfl (by decide) rfl (Nat.le_of_ble_eq_true rfl) dX6_spare_5 ?_
  rintro _ _ ⟨rfl, ⟨rfl, c127⟩ | ⟨rfl, c127⟩⟩
  · have f129 : iv 0 1023 x1 := (iv_of3 c127 (iv_shl1 (a := 0) (b := 10) (show iv 0 10 (ac_gi σ 0) from hI.1 0) (by decide)))
    refine at_if_ne C 14 dX6_spare_8 (by decide) (fun c130 => ?_) (fun c130 => absurd c130 (iv_xeq (iv_c (c := 1) (x := (1 : Int32)) (by decide)) (iv_c (c := 0) (x := (0 : Int32)) (by decide)) (by decide)))
    refine at_aload_n C 0 dX6_spare_14 rfl ?_
    refine gf_X6_28 C dX6_spare_15 ?_
    refine at_iload_n C 1 dX6_spare_18 rfl ?_
    refine at_Vi C (As := [.int x1]) (st := []) (b := 3) (ci := 3) (ct_X3_canPack σ x1 hI) mb_X3_canPack ml_X6_112 rfl rfl rfl (by decide) rfl (Nat.le_of_ble_eq_true rfl) dX6_spare_19 ?_
    rintro _ u133 ⟨hg132, rfl | rfl⟩
    · have hG135 := hG0.tr hg132
      refine at_if_eq C 36 dX6_spare_22 (by decide) (fun c136 => ?_) (fun c136 => absurd (iv_xne (iv_c (c := 0) (x := (0 : Int32)) (by decide)) (iv_c (c := 0) (x := (0 : Int32)) (by decide))) c136)
      refine at_bipush C (-3 : Int32) dX6_spare_36 (by decide) ?_
      exact hR _ _ _ _ dX6_spare_38 ⟨hG135, (iv_wk (iv_c (c := (-3)) (x := (-3 : Int32)) (by decide)) (by decide) (by decide) : iv (-2147483648) 2147483647 (-3 : Int32))⟩
    · have hG137 := hG0.tr hg132
      refine at_if_eq C 36 dX6_spare_22 (by decide) (fun c138 => absurd c138 (iv_xeq (iv_c (c := 1) (x := (1 : Int32)) (by decide)) (iv_c (c := 0) (x := (0 : Int32)) (by decide)) (by decide))) (fun c138 => ?_)
      refine at_aload_n C 0 dX6_spare_25 rfl ?_
      refine gf_X6_28 C dX6_spare_26 ?_
      refine at_iload_n C 1 dX6_spare_29 rfl ?_
      refine at_Vi C (As := [.int x1]) (st := []) (b := 3) (ci := 3) (ct_X3_couldJoin u133 x1 hg132.1) mb_X3_couldJoin ml_X6_118 rfl rfl rfl (by decide) rfl (Nat.le_of_ble_eq_true rfl) dX6_spare_30 ?_
      rintro r139 u141 ⟨hg142, f140⟩
      have hG143 := hG137.tr hg142
      refine at_goto C 38 dX6_spare_33 (by decide) ?_
      exact hR _ _ _ _ dX6_spare_38 ⟨hG143, (show iv (-2147483648) 2147483647 r139 from f140)⟩
  · refine at_if_ne C 14 dX6_spare_8 (by decide) (fun c144 => absurd (iv_xne (iv_c (c := 0) (x := (0 : Int32)) (by decide)) (iv_c (c := 0) (x := (0 : Int32)) (by decide))) c144) (fun c144 => ?_)
    refine at_bipush C (-2 : Int32) dX6_spare_11 (by decide) ?_
    exact hR _ _ _ _ dX6_spare_13 ⟨hG0, (iv_wk (iv_c (c := (-2)) (x := (-2 : Int32)) (by decide)) (by decide) (by decide) : iv (-2147483648) 2147483647 (-2 : Int32))⟩
set_option maxHeartbeats 4000000 in
set_option maxRecDepth 100000 in
theorem ct_X6_run (σ : SS) (x1 : Int32) (hI : Inv σ) : ConI yX6_run cX6_run 2 (some .int) 17 (some 0) [.int x1] σ (fun r σ' => Gd σ σ' ∧ iv (-2147483648) 2147483647 r) := by
  refine conI_of (by decide) (fun q => Nat.le_of_ble_eq_true rfl) (fun E C en hR => ?_)
  have hG0 : Gd σ σ := Gd.rf hI
  refine at_iload_n C 1 dX6_run_0 rfl ?_
  refine at_iconst C (0 : Int32) dX6_run_1 (by decide) ?_
  refine at_iconst C (3 : Int32) dX6_run_2 (by decide) ?_
  refine at_Si C (As := [.int x1, .int (0 : Int32), .int (3 : Int32)]) (st := []) (ct_X6_within σ x1 (0 : Int32) (3 : Int32)) mb_X6_within ml_X6_66 rfl (by decide) rfl (Nat.le_of_ble_eq_true rfl) dX6_run_3 ?_
  rintro _ _ ⟨rfl, ⟨rfl, c71⟩ | ⟨rfl, c71⟩⟩
  · have f73 : iv 0 3 x1 := (iv_of2 c71 (iv_c (c := 0) (x := (0 : Int32)) (by decide)) (iv_c (c := 3) (x := (3 : Int32)) (by decide)))
    refine at_if_ne C 12 dX6_run_6 (by decide) (fun c74 => ?_) (fun c74 => absurd c74 (iv_xeq (iv_c (c := 1) (x := (1 : Int32)) (by decide)) (iv_c (c := 0) (x := (0 : Int32)) (by decide)) (by decide)))
    refine at_aload_n C 0 dX6_run_12 rfl ?_
    refine gf_X6_37 C dX6_run_13 ?_
    refine at_iconst C (-1 : Int32) dX6_run_16 (by decide) ?_
    refine at_iconst C (0 : Int32) dX6_run_17 (by decide) ?_
    refine at_Vv C (As := [.int (-1 : Int32), .int (0 : Int32)]) (st := []) (b := 4) (ci := 1) (ct_X1_letFall σ (-1 : Int32) (0 : Int32) hI) mb_X1_letFall ml_X6_133 rfl rfl rfl (by decide) rfl (Nat.le_of_ble_eq_true rfl) dX6_run_18 ?_
    rintro u75 hg76
    have hG77 := hG0.tr hg76
    refine at_aload_n C 0 dX6_run_21 rfl ?_
    refine gf_X6_37 C dX6_run_22 ?_
    refine at_iload_n C 1 dX6_run_25 rfl ?_
    refine at_Vi C (As := [.int x1]) (st := []) (b := 4) (ci := 1) (ct_X1_ending u75 x1 hg76.1) mb_X1_ending ml_X6_137 rfl rfl rfl (by decide) rfl (Nat.le_of_ble_eq_true rfl) dX6_run_26 ?_
    rintro r78 _ ⟨rfl, f79⟩
    exact hR _ _ _ _ dX6_run_29 ⟨hG77, (show iv (-2147483648) 2147483647 r78 from f79)⟩
  · refine at_if_ne C 12 dX6_run_6 (by decide) (fun c80 => absurd (iv_xne (iv_c (c := 0) (x := (0 : Int32)) (by decide)) (iv_c (c := 0) (x := (0 : Int32)) (by decide))) c80) (fun c80 => ?_)
    refine at_bipush C (-2 : Int32) dX6_run_9 (by decide) ?_
    exact hR _ _ _ _ dX6_run_11 ⟨hG0, (iv_wk (iv_c (c := (-2)) (x := (-2 : Int32)) (by decide)) (by decide) (by decide) : iv (-2147483648) 2147483647 (-2 : Int32))⟩
set_option maxHeartbeats 4000000 in
set_option maxRecDepth 100000 in
theorem ct_X6_paid (σ : SS) (x1 : Int32) (hI : Inv σ) : ConI yX6_paid cX6_paid 2 (some .int) 17 (some 0) [.int x1] σ (fun r σ' => Gd σ σ' ∧ iv (-2147483648) 2147483647 r) := by
  refine conI_of (by decide) (fun q => Nat.le_of_ble_eq_true rfl) (fun E C en hR => ?_)
  have hG0 : Gd σ σ := Gd.rf hI
  refine at_aload_n C 0 dX6_paid_0 rfl ?_
  refine gf_X6_37 C dX6_paid_1 ?_
  refine at_iload_n C 1 dX6_paid_4 rfl ?_
  refine at_Vi C (As := [.int x1]) (st := []) (b := 4) (ci := 1) (ct_X1_isOld σ x1 hI) mb_X1_isOld ml_X6_140 rfl rfl rfl (by decide) rfl (Nat.le_of_ble_eq_true rfl) dX6_paid_5 ?_
  rintro _ _ ⟨rfl, ⟨rfl, c57⟩ | ⟨rfl, c57⟩⟩
  · have f59 : iv 0 9 x1 := (iv_of3 c57.1 (show iv 0 10 (ac_gi σ 0) from hI.1 0))
    refine at_if_ne C 14 dX6_paid_8 (by decide) (fun c60 => ?_) (fun c60 => absurd c60 (iv_xeq (iv_c (c := 1) (x := (1 : Int32)) (by decide)) (iv_c (c := 0) (x := (0 : Int32)) (by decide)) (by decide)))
    refine at_aload_n C 0 dX6_paid_14 rfl ?_
    refine gf_X6_37 C dX6_paid_15 ?_
    refine at_iconst C (-1 : Int32) dX6_paid_18 (by decide) ?_
    refine at_iconst C (0 : Int32) dX6_paid_19 (by decide) ?_
    refine at_Vv C (As := [.int (-1 : Int32), .int (0 : Int32)]) (st := []) (b := 4) (ci := 1) (ct_X1_letFall σ (-1 : Int32) (0 : Int32) hI) mb_X1_letFall ml_X6_133 rfl rfl rfl (by decide) rfl (Nat.le_of_ble_eq_true rfl) dX6_paid_20 ?_
    rintro u61 hg62
    have hG63 := hG0.tr hg62
    refine at_aload_n C 0 dX6_paid_23 rfl ?_
    refine gf_X6_37 C dX6_paid_24 ?_
    refine gf_X6_143 C dX6_paid_27 ?_
    refine at_iload_n C 1 dX6_paid_30 rfl ?_
    refine at_iald C (c := 19) rfl (iv_in (n := 10) f59 (by decide) (by decide)) dX6_paid_31 ?_
    exact hR _ _ _ _ dX6_paid_32 ⟨hG63, (show iv (-2147483648) 2147483647 (ac_ga u61 19 (x1).toNatClampNeg) from (iv_any (ac_ga u61 19 (x1).toNatClampNeg)))⟩
  · refine at_if_ne C 14 dX6_paid_8 (by decide) (fun c64 => absurd (iv_xne (iv_c (c := 0) (x := (0 : Int32)) (by decide)) (iv_c (c := 0) (x := (0 : Int32)) (by decide))) c64) (fun c64 => ?_)
    refine at_bipush C (-2 : Int32) dX6_paid_11 (by decide) ?_
    exact hR _ _ _ _ dX6_paid_13 ⟨hG0, (iv_wk (iv_c (c := (-2)) (x := (-2 : Int32)) (by decide)) (by decide) (by decide) : iv (-2147483648) 2147483647 (-2 : Int32))⟩
set_option maxHeartbeats 4000000 in
set_option maxRecDepth 100000 in
theorem ct_X6_round (σ : SS) (x1 : Int32) (hI : Inv σ) : ConI yX6_round cX6_round 2 (some .int) 17 (some 0) [.int x1] σ (fun r σ' => Gd σ σ' ∧ iv (-2147483648) 2147483647 r) := by
  refine conI_of (by decide) (fun q => Nat.le_of_ble_eq_true rfl) (fun E C en hR => ?_)
  have hG0 : Gd σ σ := Gd.rf hI
  refine at_aload_n C 0 dX6_round_0 rfl ?_
  refine gf_X6_37 C dX6_round_1 ?_
  refine at_iload_n C 1 dX6_round_4 rfl ?_
  refine at_Vi C (As := [.int x1]) (st := []) (b := 4) (ci := 1) (ct_X1_isOld σ x1 hI) mb_X1_isOld ml_X6_140 rfl rfl rfl (by decide) rfl (Nat.le_of_ble_eq_true rfl) dX6_round_5 ?_
  rintro _ _ ⟨rfl, ⟨rfl, c57⟩ | ⟨rfl, c57⟩⟩
  · have f59 : iv 0 9 x1 := (iv_of3 c57.1 (show iv 0 10 (ac_gi σ 0) from hI.1 0))
    refine at_if_ne C 14 dX6_round_8 (by decide) (fun c60 => ?_) (fun c60 => absurd c60 (iv_xeq (iv_c (c := 1) (x := (1 : Int32)) (by decide)) (iv_c (c := 0) (x := (0 : Int32)) (by decide)) (by decide)))
    refine at_aload_n C 0 dX6_round_14 rfl ?_
    refine gf_X6_37 C dX6_round_15 ?_
    refine at_iconst C (-1 : Int32) dX6_round_18 (by decide) ?_
    refine at_iconst C (0 : Int32) dX6_round_19 (by decide) ?_
    refine at_Vv C (As := [.int (-1 : Int32), .int (0 : Int32)]) (st := []) (b := 4) (ci := 1) (ct_X1_letFall σ (-1 : Int32) (0 : Int32) hI) mb_X1_letFall ml_X6_133 rfl rfl rfl (by decide) rfl (Nat.le_of_ble_eq_true rfl) dX6_round_20 ?_
    rintro u61 hg62
    have hG63 := hG0.tr hg62
    refine at_aload_n C 0 dX6_round_23 rfl ?_
    refine gf_X6_37 C dX6_round_24 ?_
    refine gf_X6_146 C dX6_round_27 ?_
    refine at_iload_n C 1 dX6_round_30 rfl ?_
    refine at_iald C (c := 20) rfl (iv_in (n := 10) f59 (by decide) (by decide)) dX6_round_31 ?_
    exact hR _ _ _ _ dX6_round_32 ⟨hG63, (show iv (-2147483648) 2147483647 (ac_ga u61 20 (x1).toNatClampNeg) from (iv_any (ac_ga u61 20 (x1).toNatClampNeg)))⟩
  · refine at_if_ne C 14 dX6_round_8 (by decide) (fun c64 => absurd (iv_xne (iv_c (c := 0) (x := (0 : Int32)) (by decide)) (iv_c (c := 0) (x := (0 : Int32)) (by decide))) c64) (fun c64 => ?_)
    refine at_bipush C (-2 : Int32) dX6_round_11 (by decide) ?_
    exact hR _ _ _ _ dX6_round_13 ⟨hG0, (iv_wk (iv_c (c := (-2)) (x := (-2 : Int32)) (by decide)) (by decide) (by decide) : iv (-2147483648) 2147483647 (-2 : Int32))⟩
set_option maxHeartbeats 4000000 in
set_option maxRecDepth 100000 in
theorem ct_X6_gain (σ : SS) (x1 : Int32) (x2 : Int32) (hI : Inv σ) : ConI yX6_gain cX6_gain 3 (some .int) 18 (some 0) [.int x1, .int x2] σ (fun r σ' => Gd σ σ' ∧ iv (-2147483648) 2147483647 r) := by
  refine conI_of (by decide) (fun q => Nat.le_of_ble_eq_true rfl) (fun E C en hR => ?_)
  have hG0 : Gd σ σ := Gd.rf hI
  refine at_aload_n C 0 dX6_gain_0 rfl ?_
  refine gf_X6_37 C dX6_gain_1 ?_
  refine at_iload_n C 1 dX6_gain_4 rfl ?_
  refine at_Vi C (As := [.int x1]) (st := []) (b := 4) (ci := 1) (ct_X1_isOld σ x1 hI) mb_X1_isOld ml_X6_140 rfl rfl rfl (by decide) rfl (Nat.le_of_ble_eq_true rfl) dX6_gain_5 ?_
  rintro _ _ ⟨rfl, ⟨rfl, c141⟩ | ⟨rfl, c141⟩⟩
  · have f143 : iv 0 9 x1 := (iv_of3 c141.1 (show iv 0 10 (ac_gi σ 0) from hI.1 0))
    refine at_if_eq C 22 dX6_gain_8 (by decide) (fun c144 => absurd c144 (iv_xeq (iv_c (c := 1) (x := (1 : Int32)) (by decide)) (iv_c (c := 0) (x := (0 : Int32)) (by decide)) (by decide))) (fun c144 => ?_)
    refine at_iload_n C 2 dX6_gain_11 rfl ?_
    refine at_iconst C (0 : Int32) dX6_gain_12 (by decide) ?_
    refine at_sipush C (1000 : Int32) dX6_gain_13 (by decide) ?_
    refine at_Si C (As := [.int x2, .int (0 : Int32), .int (1000 : Int32)]) (st := []) (ct_X6_within σ x2 (0 : Int32) (1000 : Int32)) mb_X6_within ml_X6_66 rfl (by decide) rfl (Nat.le_of_ble_eq_true rfl) dX6_gain_16 ?_
    rintro _ _ ⟨rfl, ⟨rfl, c145⟩ | ⟨rfl, c145⟩⟩
    · have f147 : iv 0 1000 x2 := (iv_of2 c145 (iv_c (c := 0) (x := (0 : Int32)) (by decide)) (iv_c (c := 1000) (x := (1000 : Int32)) (by decide)))
      refine at_if_ne C 25 dX6_gain_19 (by decide) (fun c148 => ?_) (fun c148 => absurd c148 (iv_xeq (iv_c (c := 1) (x := (1 : Int32)) (by decide)) (iv_c (c := 0) (x := (0 : Int32)) (by decide)) (by decide)))
      refine at_aload_n C 0 dX6_gain_25 rfl ?_
      refine gf_X6_37 C dX6_gain_26 ?_
      refine at_iload_n C 1 dX6_gain_29 rfl ?_
      refine at_iload_n C 2 dX6_gain_30 rfl ?_
      refine at_Vi C (As := [.int x1, .int x2]) (st := []) (b := 4) (ci := 1) (ct_X1_profit σ x1 x2 hI) mb_X1_profit ml_X6_150 rfl rfl rfl (by decide) rfl (Nat.le_of_ble_eq_true rfl) dX6_gain_31 ?_
      rintro r149 u151 ⟨hg152, f150⟩
      have hG153 := hG0.tr hg152
      refine at_aload_n C 0 dX6_gain_34 rfl ?_
      refine gf_X6_37 C dX6_gain_35 ?_
      refine at_iload_n C 1 dX6_gain_38 rfl ?_
      refine at_aload_n C 0 dX6_gain_39 rfl ?_
      refine gf_X6_37 C dX6_gain_40 ?_
      refine gf_X6_153 C dX6_gain_43 ?_
      refine at_iload_n C 1 dX6_gain_46 rfl ?_
      refine at_iald C (c := 17) rfl (iv_in (n := 10) f143 (by decide) (by decide)) dX6_gain_47 ?_
      refine at_Vi C (As := [.int x1, .int (ac_ga u151 17 (x1).toNatClampNeg)]) (st := [.int r149]) (b := 4) (ci := 1) (ct_X1_profit u151 x1 (ac_ga u151 17 (x1).toNatClampNeg) hg152.1) mb_X1_profit ml_X6_150 rfl rfl rfl (by decide) rfl (Nat.le_of_ble_eq_true rfl) dX6_gain_48 ?_
      rintro r154 u156 ⟨hg157, f155⟩
      have hG158 := hG153.tr hg157
      refine at_isub C dX6_gain_51 ?_
      exact hR _ _ _ _ dX6_gain_52 ⟨hG158, (show iv (-2147483648) 2147483647 (r149 - r154) from (iv_any (r149 - r154)))⟩
    · refine at_if_ne C 25 dX6_gain_19 (by decide) (fun c159 => absurd (iv_xne (iv_c (c := 0) (x := (0 : Int32)) (by decide)) (iv_c (c := 0) (x := (0 : Int32)) (by decide))) c159) (fun c159 => ?_)
      refine at_ldc C (-1000000 : Int32) dX6_gain_22 kc_X6_149 ?_
      exact hR _ _ _ _ dX6_gain_24 ⟨hG0, (iv_wk (iv_c (c := (-1000000)) (x := (-1000000 : Int32)) (by decide)) (by decide) (by decide) : iv (-2147483648) 2147483647 (-1000000 : Int32))⟩
  · refine at_if_eq C 22 dX6_gain_8 (by decide) (fun c160 => ?_) (fun c160 => absurd (iv_xne (iv_c (c := 0) (x := (0 : Int32)) (by decide)) (iv_c (c := 0) (x := (0 : Int32)) (by decide))) c160)
    refine at_ldc C (-1000000 : Int32) dX6_gain_22 kc_X6_149 ?_
    exact hR _ _ _ _ dX6_gain_24 ⟨hG0, (iv_wk (iv_c (c := (-1000000)) (x := (-1000000 : Int32)) (by decide)) (by decide) (by decide) : iv (-2147483648) 2147483647 (-1000000 : Int32))⟩
set_option maxHeartbeats 4000000 in
set_option maxRecDepth 100000 in
theorem ct_X6_most (σ : SS) (x1 : Int32) (x2 : Int32) (x3 : Int32) (x4 : Int32) (hI : Inv σ) : ConI yX6_most cX6_most 10 (some .int) 18 (some 0) [.int x1, .int x2, .int x3, .int x4] σ (fun r σ' => Gd σ σ' ∧ iv (-2147483648) 2147483647 r) := by
  refine conI_of (by decide) (fun q => Nat.le_of_ble_eq_true rfl) (fun E C en hR => ?_)
  have hn5 : 5 < e_n E := by rw [en]; decide
  have hn6 : 6 < e_n E := by rw [en]; decide
  have hn7 : 7 < e_n E := by rw [en]; decide
  have hn8 : 8 < e_n E := by rw [en]; decide
  have hn9 : 9 < e_n E := by rw [en]; decide
  have hG0 : Gd σ σ := Gd.rf hI
  have K96 : ∀ (n96 : Nat) (y5_96 : Int32) (y6_96 : Int32) (y7_96 : Int32) (y8_96 : Int32) (s96 : SS), (2000 - (y8_96).toInt).toNat < n96 → iv 0 9 x1 → iv 0 1000 x2 → iv 1 1000 x3 → iv 0 1 x4 → iv (-2147483648) 2147483647 y5_96 → iv (-2147483648) 2147483647 y6_96 → iv 0 1000 y7_96 → iv 1 2000 y8_96 → Gd σ s96 → AT E 96 [(0, .ref (e_q E 0)), (1, .int x1), (2, .int x2), (3, .int x3), (4, .int x4), (5, .int y5_96), (6, .int y6_96), (7, .int y7_96), (8, .int y8_96)] [] s96 := by
    intro n96
    induction n96 with
    | zero => intro y5_96 y6_96 y7_96 y8_96 s96 hm; exact absurd hm (Nat.not_lt_zero _)
    | succ n96 ih96 =>
      intro y5_96 y6_96 y7_96 y8_96 s96 hm96 b1_96 b2_96 b3_96 b4_96 b5_96 b6_96 b7_96 b8_96 hG_96
      refine at_iload C 8 dX6_most_96 rfl ?_
      refine at_iload_n C 2 dX6_most_98 rfl ?_
      refine at_icmp_gt C 141 dX6_most_99 (by decide) (fun c377 => ?_) (fun c377 => ?_)
      · refine at_iload C 4 dX6_most_141 rfl ?_
        refine at_if_ne C 151 dX6_most_143 (by decide) (fun c378 => ?_) (fun c378 => ?_)
        · have f379 : iv 1 1 x4 := (iv_nel b4_96 (by decide) c378)
          refine at_iload C 7 dX6_most_151 rfl ?_
          exact hR _ _ _ _ dX6_most_153 ⟨hG_96, (iv_wk b7_96 (by decide) (by decide) : iv (-2147483648) 2147483647 y7_96)⟩
        · have f380 : iv 0 0 x4 := (iv_eql (iv_c (c := 0) (x := (0 : Int32)) (by decide)) c378)
          refine at_iload C 6 dX6_most_146 rfl ?_
          refine at_goto C 153 dX6_most_148 (by decide) ?_
          exact hR _ _ _ _ dX6_most_153 ⟨hG_96, (show iv (-2147483648) 2147483647 y6_96 from b6_96)⟩
      · have f381 : iv 1 1000 y8_96 := (iv_lel b8_96 b2_96 (Int32.not_lt.mp c377))
        have f382 : iv 1 1000 x2 := (iv_ler b8_96 b2_96 (Int32.not_lt.mp c377))
        refine at_aload_n C 0 dX6_most_102 rfl ?_
        refine gf_X6_37 C dX6_most_103 ?_
        refine at_iload_n C 1 dX6_most_106 rfl ?_
        refine at_iload C 8 dX6_most_107 rfl ?_
        refine at_Vi C (As := [.int x1, .int y8_96]) (st := []) (b := 4) (ci := 1) (ct_X1_profit s96 x1 y8_96 hG_96.1) mb_X1_profit ml_X6_150 rfl rfl rfl (by decide) rfl (Nat.le_of_ble_eq_true rfl) dX6_most_109 ?_
        rintro r383 u385 ⟨hg386, f384⟩
        have hG387 := hG_96.tr hg386
        refine at_iload C 5 dX6_most_112 rfl ?_
        refine at_isub C dX6_most_114 ?_
        refine at_istore C (lv' := [(9, .int (r383 - y5_96)), (0, .ref (e_q E 0)), (1, .int x1), (2, .int x2), (3, .int x3), (4, .int x4), (5, .int y5_96), (6, .int y6_96), (7, .int y7_96), (8, .int y8_96)]) dX6_most_115 hn9 rfl ?_
        refine at_iload C 0 dX6_most_117 rfl ?_
        refine at_iload C 7 dX6_most_119 rfl ?_
        refine at_icmp_le C 132 dX6_most_121 (by decide) (fun c388 => ?_) (fun c388 => ?_)
        · refine at_iload C 9 dX6_most_132 rfl ?_
          refine at_iload_n C 4 dX6_most_134 rfl ?_
          refine at_iadd C dX6_most_135 ?_
          refine at_istore C (lv' := [(8, .int (y8_96 + x3)), (9, .int (r383 - y5_96)), (0, .ref (e_q E 0)), (1, .int x1), (2, .int x2), (3, .int x3), (4, .int x4), (5, .int y5_96), (6, .int y6_96), (7, .int y7_96)]) dX6_most_136 hn8 rfl ?_
          refine at_goto C 96 dX6_most_138 (by decide) ?_
          exact at_sub [2, 3, 4, 5, 6, 7, 8, 9, 0] rfl (ih96 y5_96 y6_96 y7_96 (y8_96 + x3) u385 (mz_upv hm96 f381 b3_96 (by decide) (by decide) (by decide) (iv_wk (iv_add f381 b3_96 (by decide) (by decide)) (by decide) (by decide) : iv 1 2000 (y8_96 + x3)).2) (show iv 0 9 x1 from b1_96) (iv_wk f382 (by decide) (by decide) : iv 0 1000 x2) (show iv 1 1000 x3 from b3_96) (show iv 0 1 x4 from b4_96) (show iv (-2147483648) 2147483647 y5_96 from b5_96) (show iv (-2147483648) 2147483647 y6_96 from b6_96) (show iv 0 1000 y7_96 from b7_96) (iv_wk (iv_add f381 b3_96 (by decide) (by decide)) (by decide) (by decide) : iv 1 2000 (y8_96 + x3)) hG387)
        · have f389 : iv (-2147483648) 2147483646 y6_96 := (iv_ltl b6_96 (iv_any (r383 - y5_96)) (Int32.not_le.mp c388))
          have f390 : iv (-2147483647) 2147483647 (r383 - y5_96) := (iv_ltr b6_96 (iv_any (r383 - y5_96)) (Int32.not_le.mp c388))
          refine at_iload C 0 dX6_most_124 rfl ?_
          refine at_istore C (lv' := [(6, .int (r383 - y5_96)), (9, .int (r383 - y5_96)), (0, .ref (e_q E 0)), (1, .int x1), (2, .int x2), (3, .int x3), (4, .int x4), (5, .int y5_96), (7, .int y7_96), (8, .int y8_96)]) dX6_most_126 hn6 rfl ?_
          refine at_iload C 9 dX6_most_128 rfl ?_
          refine at_istore C (lv' := [(7, .int y8_96), (6, .int (r383 - y5_96)), (9, .int (r383 - y5_96)), (0, .ref (e_q E 0)), (1, .int x1), (2, .int x2), (3, .int x3), (4, .int x4), (5, .int y5_96), (8, .int y8_96)]) dX6_most_130 hn7 rfl ?_
          refine at_iload C 9 dX6_most_132 rfl ?_
          refine at_iload_n C 6 dX6_most_134 rfl ?_
          refine at_iadd C dX6_most_135 ?_
          refine at_istore C (lv' := [(8, .int (y8_96 + x3)), (7, .int y8_96), (6, .int (r383 - y5_96)), (9, .int (r383 - y5_96)), (0, .ref (e_q E 0)), (1, .int x1), (2, .int x2), (3, .int x3), (4, .int x4), (5, .int y5_96)]) dX6_most_136 hn8 rfl ?_
          refine at_goto C 96 dX6_most_138 (by decide) ?_
          exact at_sub [4, 5, 6, 7, 8, 9, 2, 1, 0] rfl (ih96 y5_96 (r383 - y5_96) y8_96 (y8_96 + x3) u385 (mz_upv hm96 f381 b3_96 (by decide) (by decide) (by decide) (iv_wk (iv_add f381 b3_96 (by decide) (by decide)) (by decide) (by decide) : iv 1 2000 (y8_96 + x3)).2) (show iv 0 9 x1 from b1_96) (iv_wk f382 (by decide) (by decide) : iv 0 1000 x2) (show iv 1 1000 x3 from b3_96) (show iv 0 1 x4 from b4_96) (show iv (-2147483648) 2147483647 y5_96 from b5_96) (iv_wk f390 (by decide) (by decide) : iv (-2147483648) 2147483647 (r383 - y5_96)) (iv_wk f381 (by decide) (by decide) : iv 0 1000 y8_96) (iv_wk (iv_add f381 b3_96 (by decide) (by decide)) (by decide) (by decide) : iv 1 2000 (y8_96 + x3)) hG387)
  refine at_aload_n C 0 dX6_most_0 rfl ?_
  refine gf_X6_37 C dX6_most_1 ?_
  refine at_iload_n C 1 dX6_most_4 rfl ?_
  refine at_Vi C (As := [.int x1]) (st := []) (b := 4) (ci := 1) (ct_X1_isOld σ x1 hI) mb_X1_isOld ml_X6_140 rfl rfl rfl (by decide) rfl (Nat.le_of_ble_eq_true rfl) dX6_most_5 ?_
  rintro _ _ ⟨rfl, ⟨rfl, c391⟩ | ⟨rfl, c391⟩⟩
  · have f393 : iv 0 9 x1 := (iv_of3 c391.1 (show iv 0 10 (ac_gi σ 0) from hI.1 0))
    refine at_if_eq C 43 dX6_most_8 (by decide) (fun c394 => absurd c394 (iv_xeq (iv_c (c := 1) (x := (1 : Int32)) (by decide)) (iv_c (c := 0) (x := (0 : Int32)) (by decide)) (by decide))) (fun c394 => ?_)
    refine at_iload_n C 2 dX6_most_11 rfl ?_
    refine at_iconst C (0 : Int32) dX6_most_12 (by decide) ?_
    refine at_sipush C (1000 : Int32) dX6_most_13 (by decide) ?_
    refine at_Si C (As := [.int x2, .int (0 : Int32), .int (1000 : Int32)]) (st := []) (ct_X6_within σ x2 (0 : Int32) (1000 : Int32)) mb_X6_within ml_X6_66 rfl (by decide) rfl (Nat.le_of_ble_eq_true rfl) dX6_most_16 ?_
    rintro _ _ ⟨rfl, ⟨rfl, c395⟩ | ⟨rfl, c395⟩⟩
    · have f397 : iv 0 1000 x2 := (iv_of2 c395 (iv_c (c := 0) (x := (0 : Int32)) (by decide)) (iv_c (c := 1000) (x := (1000 : Int32)) (by decide)))
      refine at_if_eq C 43 dX6_most_19 (by decide) (fun c398 => absurd c398 (iv_xeq (iv_c (c := 1) (x := (1 : Int32)) (by decide)) (iv_c (c := 0) (x := (0 : Int32)) (by decide)) (by decide))) (fun c398 => ?_)
      refine at_iload_n C 3 dX6_most_22 rfl ?_
      refine at_iconst C (1 : Int32) dX6_most_23 (by decide) ?_
      refine at_sipush C (1000 : Int32) dX6_most_24 (by decide) ?_
      refine at_Si C (As := [.int x3, .int (1 : Int32), .int (1000 : Int32)]) (st := []) (ct_X6_within σ x3 (1 : Int32) (1000 : Int32)) mb_X6_within ml_X6_66 rfl (by decide) rfl (Nat.le_of_ble_eq_true rfl) dX6_most_27 ?_
      rintro _ _ ⟨rfl, ⟨rfl, c399⟩ | ⟨rfl, c399⟩⟩
      · have f401 : iv 1 1000 x3 := (iv_of2 c399 (iv_c (c := 1) (x := (1 : Int32)) (by decide)) (iv_c (c := 1000) (x := (1000 : Int32)) (by decide)))
        refine at_if_eq C 43 dX6_most_30 (by decide) (fun c402 => absurd c402 (iv_xeq (iv_c (c := 1) (x := (1 : Int32)) (by decide)) (iv_c (c := 0) (x := (0 : Int32)) (by decide)) (by decide))) (fun c402 => ?_)
        refine at_iload C 4 dX6_most_33 rfl ?_
        refine at_iconst C (0 : Int32) dX6_most_35 (by decide) ?_
        refine at_iconst C (1 : Int32) dX6_most_36 (by decide) ?_
        refine at_Si C (As := [.int x4, .int (0 : Int32), .int (1 : Int32)]) (st := []) (ct_X6_within σ x4 (0 : Int32) (1 : Int32)) mb_X6_within ml_X6_66 rfl (by decide) rfl (Nat.le_of_ble_eq_true rfl) dX6_most_37 ?_
        rintro _ _ ⟨rfl, ⟨rfl, c403⟩ | ⟨rfl, c403⟩⟩
        · have f405 : iv 0 1 x4 := (iv_of2 c403 (iv_c (c := 0) (x := (0 : Int32)) (by decide)) (iv_c (c := 1) (x := (1 : Int32)) (by decide)))
          refine at_if_ne C 46 dX6_most_40 (by decide) (fun c406 => ?_) (fun c406 => absurd c406 (iv_xeq (iv_c (c := 1) (x := (1 : Int32)) (by decide)) (iv_c (c := 0) (x := (0 : Int32)) (by decide)) (by decide)))
          refine at_iload_n C 2 dX6_most_46 rfl ?_
          refine at_iload_n C 3 dX6_most_47 rfl ?_
          refine at_idiv C dX6_most_48 (iv_pos f401 (by decide)) ?_
          refine at_bipush C (20 : Int32) dX6_most_49 (by decide) ?_
          refine at_icmp_le C 57 dX6_most_51 (by decide) (fun c407 => ?_) (fun c407 => ?_)
          · have f408 : iv 0 20 (x2 / x3) := (iv_lel (iv_div f397 f401) (iv_c (c := 20) (x := (20 : Int32)) (by decide)) c407)
            refine at_aload_n C 0 dX6_most_57 rfl ?_
            refine gf_X6_37 C dX6_most_58 ?_
            refine at_iload_n C 1 dX6_most_61 rfl ?_
            refine at_aload_n C 0 dX6_most_62 rfl ?_
            refine gf_X6_37 C dX6_most_63 ?_
            refine gf_X6_153 C dX6_most_66 ?_
            refine at_iload_n C 1 dX6_most_69 rfl ?_
            refine at_iald C (c := 17) rfl (iv_in (n := 10) f393 (by decide) (by decide)) dX6_most_70 ?_
            refine at_Vi C (As := [.int x1, .int (ac_ga σ 17 (x1).toNatClampNeg)]) (st := []) (b := 4) (ci := 1) (ct_X1_profit σ x1 (ac_ga σ 17 (x1).toNatClampNeg) hI) mb_X1_profit ml_X6_150 rfl rfl rfl (by decide) rfl (Nat.le_of_ble_eq_true rfl) dX6_most_71 ?_
            rintro r409 u411 ⟨hg412, f410⟩
            have hG413 := hG0.tr hg412
            refine at_istore C (lv' := [(5, .int r409), (0, .ref (e_q E 0)), (1, .int x1), (2, .int x2), (3, .int x3), (4, .int x4)]) dX6_most_74 hn5 rfl ?_
            refine at_aload_n C 1 dX6_most_76 rfl ?_
            refine gf_X6_37 C dX6_most_77 ?_
            refine at_iload_n C 2 dX6_most_80 rfl ?_
            refine at_iconst C (0 : Int32) dX6_most_81 (by decide) ?_
            refine at_Vi C (As := [.int x1, .int (0 : Int32)]) (st := []) (b := 4) (ci := 1) (ct_X1_profit u411 x1 (0 : Int32) hg412.1) mb_X1_profit ml_X6_150 rfl rfl rfl (by decide) rfl (Nat.le_of_ble_eq_true rfl) dX6_most_82 ?_
            rintro r414 u416 ⟨hg417, f415⟩
            have hG418 := hG413.tr hg417
            refine at_iload C 0 dX6_most_85 rfl ?_
            refine at_isub C dX6_most_87 ?_
            refine at_istore C (lv' := [(6, .int (r414 - r409)), (5, .int r409), (0, .ref (e_q E 0)), (1, .int x1), (2, .int x2), (3, .int x3), (4, .int x4)]) dX6_most_88 hn6 rfl ?_
            refine at_iconst C (0 : Int32) dX6_most_90 (by decide) ?_
            refine at_istore C (lv' := [(7, .int (0 : Int32)), (6, .int (r414 - r409)), (5, .int r409), (0, .ref (e_q E 0)), (1, .int x1), (2, .int x2), (3, .int x3), (4, .int x4)]) dX6_most_91 hn7 rfl ?_
            refine at_iload_n C 6 dX6_most_93 rfl ?_
            refine at_istore C (lv' := [(8, .int x3), (7, .int (0 : Int32)), (6, .int (r414 - r409)), (5, .int r409), (0, .ref (e_q E 0)), (1, .int x1), (2, .int x2), (3, .int x3), (4, .int x4)]) dX6_most_94 hn8 rfl ?_
            exact at_sub [4, 5, 6, 7, 8, 3, 2, 1, 0] rfl (K96 _ r409 (r414 - r409) (0 : Int32) x3 u416 (Nat.lt_succ_self _) (show iv 0 9 x1 from f393) (show iv 0 1000 x2 from f397) (show iv 1 1000 x3 from f401) (show iv 0 1 x4 from f405) (show iv (-2147483648) 2147483647 r409 from f410) (show iv (-2147483648) 2147483647 (r414 - r409) from (iv_any (r414 - r409))) (iv_wk (iv_c (c := 0) (x := (0 : Int32)) (by decide)) (by decide) (by decide) : iv 0 1000 (0 : Int32)) (iv_wk f401 (by decide) (by decide) : iv 1 2000 x3) hG418)
          · have f419 : iv 21 1000 (x2 / x3) := (iv_ltr (iv_c (c := 20) (x := (20 : Int32)) (by decide)) (iv_div f397 f401) (Int32.not_le.mp c407))
            refine at_ldc C (-1000000 : Int32) dX6_most_54 kc_X6_149 ?_
            exact hR _ _ _ _ dX6_most_56 ⟨hG0, (iv_wk (iv_c (c := (-1000000)) (x := (-1000000 : Int32)) (by decide)) (by decide) (by decide) : iv (-2147483648) 2147483647 (-1000000 : Int32))⟩
        · refine at_if_ne C 46 dX6_most_40 (by decide) (fun c420 => absurd (iv_xne (iv_c (c := 0) (x := (0 : Int32)) (by decide)) (iv_c (c := 0) (x := (0 : Int32)) (by decide))) c420) (fun c420 => ?_)
          refine at_ldc C (-1000000 : Int32) dX6_most_43 kc_X6_149 ?_
          exact hR _ _ _ _ dX6_most_45 ⟨hG0, (iv_wk (iv_c (c := (-1000000)) (x := (-1000000 : Int32)) (by decide)) (by decide) (by decide) : iv (-2147483648) 2147483647 (-1000000 : Int32))⟩
      · refine at_if_eq C 43 dX6_most_30 (by decide) (fun c421 => ?_) (fun c421 => absurd (iv_xne (iv_c (c := 0) (x := (0 : Int32)) (by decide)) (iv_c (c := 0) (x := (0 : Int32)) (by decide))) c421)
        refine at_ldc C (-1000000 : Int32) dX6_most_43 kc_X6_149 ?_
        exact hR _ _ _ _ dX6_most_45 ⟨hG0, (iv_wk (iv_c (c := (-1000000)) (x := (-1000000 : Int32)) (by decide)) (by decide) (by decide) : iv (-2147483648) 2147483647 (-1000000 : Int32))⟩
    · refine at_if_eq C 43 dX6_most_19 (by decide) (fun c422 => ?_) (fun c422 => absurd (iv_xne (iv_c (c := 0) (x := (0 : Int32)) (by decide)) (iv_c (c := 0) (x := (0 : Int32)) (by decide))) c422)
      refine at_ldc C (-1000000 : Int32) dX6_most_43 kc_X6_149 ?_
      exact hR _ _ _ _ dX6_most_45 ⟨hG0, (iv_wk (iv_c (c := (-1000000)) (x := (-1000000 : Int32)) (by decide)) (by decide) (by decide) : iv (-2147483648) 2147483647 (-1000000 : Int32))⟩
  · refine at_if_eq C 43 dX6_most_8 (by decide) (fun c423 => ?_) (fun c423 => absurd (iv_xne (iv_c (c := 0) (x := (0 : Int32)) (by decide)) (iv_c (c := 0) (x := (0 : Int32)) (by decide))) c423)
    refine at_ldc C (-1000000 : Int32) dX6_most_43 kc_X6_149 ?_
    exact hR _ _ _ _ dX6_most_45 ⟨hG0, (iv_wk (iv_c (c := (-1000000)) (x := (-1000000 : Int32)) (by decide)) (by decide) (by decide) : iv (-2147483648) 2147483647 (-1000000 : Int32))⟩
set_option maxHeartbeats 4000000 in
set_option maxRecDepth 100000 in
theorem ct_X6_best (σ : SS) (x1 : Int32) (x2 : Int32) (hI : Inv σ) : ConI yX6_best cX6_best 3 (some .int) 4 (some 0) [.int x1, .int x2] σ (fun r σ' => Gd σ σ' ∧ iv (-2147483648) 2147483647 r) := by
  refine conI_of (by decide) (fun q => Nat.le_of_ble_eq_true rfl) (fun E C en hR => ?_)
  have hG0 : Gd σ σ := Gd.rf hI
  refine at_aload_n C 0 dX6_best_0 rfl ?_
  refine gf_X6_44 C dX6_best_1 ?_
  refine at_iload_n C 1 dX6_best_4 rfl ?_
  refine at_Vi C (As := [.int x1]) (st := []) (b := 5) (ci := 5) (ct_X5_isGroup σ x1) mb_X5_isGroup ml_X6_173 rfl rfl rfl (by decide) rfl (Nat.le_of_ble_eq_true rfl) dX6_best_5 ?_
  rintro _ _ ⟨rfl, ⟨rfl, c169⟩ | ⟨rfl, c169⟩⟩
  · have f171 : iv 0 63 x1 := (iv_of4 c169 (iv_sub (iv_shl1 (a := 0) (b := 6) (show iv 0 6 (ac_gi σ 12) from hI.1 12) (by decide)) (iv_c (c := 1) (x := (1 : Int32)) (by decide)) (by decide) (by decide)))
    refine at_if_ne C 14 dX6_best_8 (by decide) (fun c172 => ?_) (fun c172 => absurd c172 (iv_xeq (iv_c (c := 1) (x := (1 : Int32)) (by decide)) (iv_c (c := 0) (x := (0 : Int32)) (by decide)) (by decide)))
    refine at_iload_n C 2 dX6_best_14 rfl ?_
    refine at_iconst C (-1 : Int32) dX6_best_15 (by decide) ?_
    refine at_icmp_ne C 28 dX6_best_16 (by decide) (fun c173 => ?_) (fun c173 => ?_)
    · refine at_aload_n C 0 dX6_best_28 rfl ?_
      refine gf_X6_44 C dX6_best_29 ?_
      refine at_iload_n C 2 dX6_best_32 rfl ?_
      refine at_Vi C (As := [.int x2]) (st := []) (b := 5) (ci := 5) (ct_X5_isHouse σ x2) mb_X5_isHouse ml_X6_162 rfl rfl rfl (by decide) rfl (Nat.le_of_ble_eq_true rfl) dX6_best_33 ?_
      rintro _ _ ⟨rfl, ⟨rfl, c174⟩ | ⟨rfl, c174⟩⟩
      · have f176 : iv 0 5 x2 := (iv_of3 c174 (show iv 0 6 (ac_gi σ 12) from hI.1 12))
        refine at_if_eq C 47 dX6_best_36 (by decide) (fun c177 => absurd c177 (iv_xeq (iv_c (c := 1) (x := (1 : Int32)) (by decide)) (iv_c (c := 0) (x := (0 : Int32)) (by decide)) (by decide))) (fun c177 => ?_)
        refine at_iload_n C 1 dX6_best_39 rfl ?_
        refine at_iload_n C 2 dX6_best_40 rfl ?_
        refine at_Si C (As := [.int x1, .int x2]) (st := []) (ct_X6_has σ x1 x2) mb_X6_has ml_X6_105 rfl (by decide) rfl (Nat.le_of_ble_eq_true rfl) dX6_best_41 ?_
        rintro _ _ ⟨rfl, ⟨rfl, c178⟩ | ⟨rfl, c178⟩⟩
        · refine at_if_ne C 50 dX6_best_44 (by decide) (fun c180 => ?_) (fun c180 => absurd c180 (iv_xeq (iv_c (c := 1) (x := (1 : Int32)) (by decide)) (iv_c (c := 0) (x := (0 : Int32)) (by decide)) (by decide)))
          refine at_aload_n C 0 dX6_best_50 rfl ?_
          refine gf_X6_44 C dX6_best_51 ?_
          refine at_iload_n C 1 dX6_best_54 rfl ?_
          refine at_Vv C (As := [.int x1]) (st := []) (b := 5) (ci := 5) (ct_X5_share σ x1 hI) mb_X5_share ml_X6_179 rfl rfl rfl (by decide) rfl (Nat.le_of_ble_eq_true rfl) dX6_best_55 ?_
          rintro u181 hg182
          have hG183 := hG0.tr hg182
          refine at_aload_n C 0 dX6_best_58 rfl ?_
          refine gf_X6_44 C dX6_best_59 ?_
          refine gf_X6_183 C dX6_best_62 ?_
          refine at_iload_n C 2 dX6_best_65 rfl ?_
          refine at_iald C (c := 25) rfl (iv_in (n := 6) f176 (by decide) (by decide)) dX6_best_66 ?_
          exact hR _ _ _ _ dX6_best_67 ⟨hG183, (iv_wk (show iv (-1) 23 (ac_ga u181 25 (x2).toNatClampNeg) from hg182.1.2 25 _) (by decide) (by decide) : iv (-2147483648) 2147483647 (ac_ga u181 25 (x2).toNatClampNeg))⟩
        · refine at_if_ne C 50 dX6_best_44 (by decide) (fun c184 => absurd (iv_xne (iv_c (c := 0) (x := (0 : Int32)) (by decide)) (iv_c (c := 0) (x := (0 : Int32)) (by decide))) c184) (fun c184 => ?_)
          refine at_bipush C (-10 : Int32) dX6_best_47 (by decide) ?_
          exact hR _ _ _ _ dX6_best_49 ⟨hG0, (iv_wk (iv_c (c := (-10)) (x := (-10 : Int32)) (by decide)) (by decide) (by decide) : iv (-2147483648) 2147483647 (-10 : Int32))⟩
      · refine at_if_eq C 47 dX6_best_36 (by decide) (fun c185 => ?_) (fun c185 => absurd (iv_xne (iv_c (c := 0) (x := (0 : Int32)) (by decide)) (iv_c (c := 0) (x := (0 : Int32)) (by decide))) c185)
        refine at_bipush C (-10 : Int32) dX6_best_47 (by decide) ?_
        exact hR _ _ _ _ dX6_best_49 ⟨hG0, (iv_wk (iv_c (c := (-10)) (x := (-10 : Int32)) (by decide)) (by decide) (by decide) : iv (-2147483648) 2147483647 (-10 : Int32))⟩
    · have f186 : iv (-1) (-1) x2 := (iv_eql (iv_c (c := (-1)) (x := (-1 : Int32)) (by decide)) c173)
      refine at_aload_n C 0 dX6_best_19 rfl ?_
      refine gf_X6_44 C dX6_best_20 ?_
      refine at_iload_n C 1 dX6_best_23 rfl ?_
      refine at_Vi C (As := [.int x1]) (st := []) (b := 5) (ci := 5) (ct_X5_greatest σ x1 hI) mb_X5_greatest ml_X6_176 rfl rfl rfl (by decide) rfl (Nat.le_of_ble_eq_true rfl) dX6_best_24 ?_
      rintro r187 u189 ⟨hg190, f188⟩
      have hG191 := hG0.tr hg190
      exact hR _ _ _ _ dX6_best_27 ⟨hG191, (show iv (-2147483648) 2147483647 r187 from f188)⟩
  · refine at_if_ne C 14 dX6_best_8 (by decide) (fun c192 => absurd (iv_xne (iv_c (c := 0) (x := (0 : Int32)) (by decide)) (iv_c (c := 0) (x := (0 : Int32)) (by decide))) c192) (fun c192 => ?_)
    refine at_bipush C (-10 : Int32) dX6_best_11 (by decide) ?_
    exact hR _ _ _ _ dX6_best_13 ⟨hG0, (iv_wk (iv_c (c := (-10)) (x := (-10 : Int32)) (by decide)) (by decide) (by decide) : iv (-2147483648) 2147483647 (-10 : Int32))⟩
set_option maxHeartbeats 4000000 in
set_option maxRecDepth 100000 in
theorem ct_X6_takes (σ : SS) (x1 : Int32) (hI : Inv σ) : ConI yX6_takes cX6_takes 2 (some .int) 5 (some 0) [.int x1] σ (fun r σ' => Gd σ σ' ∧ iv (-2147483648) 2147483647 r) := by
  refine conI_of (by decide) (fun q => Nat.le_of_ble_eq_true rfl) (fun E C en hR => ?_)
  have hG0 : Gd σ σ := Gd.rf hI
  refine at_aload_n C 0 dX6_takes_0 rfl ?_
  refine gf_X6_44 C dX6_takes_1 ?_
  refine at_iload_n C 1 dX6_takes_4 rfl ?_
  refine at_Vi C (As := [.int x1]) (st := []) (b := 5) (ci := 5) (ct_X5_isHouse σ x1) mb_X5_isHouse ml_X6_162 rfl rfl rfl (by decide) rfl (Nat.le_of_ble_eq_true rfl) dX6_takes_5 ?_
  rintro _ _ ⟨rfl, ⟨rfl, c71⟩ | ⟨rfl, c71⟩⟩
  · have f73 : iv 0 5 x1 := (iv_of3 c71 (show iv 0 6 (ac_gi σ 12) from hI.1 12))
    refine at_if_eq C 22 dX6_takes_8 (by decide) (fun c74 => absurd c74 (iv_xeq (iv_c (c := 1) (x := (1 : Int32)) (by decide)) (iv_c (c := 0) (x := (0 : Int32)) (by decide)) (by decide))) (fun c74 => ?_)
    refine at_aload_n C 0 dX6_takes_11 rfl ?_
    refine gf_X6_44 C dX6_takes_12 ?_
    refine at_iload_n C 1 dX6_takes_15 rfl ?_
    refine at_Vi C (As := [.int x1]) (st := []) (b := 5) (ci := 5) (ct_X5_takenBy σ x1 hI) mb_X5_takenBy ml_X6_186 rfl rfl rfl (by decide) rfl (Nat.le_of_ble_eq_true rfl) dX6_takes_16 ?_
    rintro r75 u77 ⟨hg78, f76⟩
    have hG79 := hG0.tr hg78
    refine at_goto C 24 dX6_takes_19 (by decide) ?_
    exact hR _ _ _ _ dX6_takes_24 ⟨hG79, (show iv (-2147483648) 2147483647 r75 from f76)⟩
  · refine at_if_eq C 22 dX6_takes_8 (by decide) (fun c80 => ?_) (fun c80 => absurd (iv_xne (iv_c (c := 0) (x := (0 : Int32)) (by decide)) (iv_c (c := 0) (x := (0 : Int32)) (by decide))) c80)
    refine at_bipush C (-2 : Int32) dX6_takes_22 (by decide) ?_
    exact hR _ _ _ _ dX6_takes_24 ⟨hG0, (iv_wk (iv_c (c := (-2)) (x := (-2 : Int32)) (by decide)) (by decide) (by decide) : iv (-2147483648) 2147483647 (-2 : Int32))⟩
set_option maxHeartbeats 4000000 in
set_option maxRecDepth 100000 in
theorem ct_X6_blocks (σ : SS) (x1 : Int32) (hI : Inv σ) : ConI yX6_blocks cX6_blocks 2 (some .int) 5 (some 0) [.int x1] σ (fun r σ' => Gd σ σ' ∧ iv (-2147483648) 2147483647 r) := by
  refine conI_of (by decide) (fun q => Nat.le_of_ble_eq_true rfl) (fun E C en hR => ?_)
  have hG0 : Gd σ σ := Gd.rf hI
  refine at_aload_n C 0 dX6_blocks_0 rfl ?_
  refine gf_X6_44 C dX6_blocks_1 ?_
  refine at_iload_n C 1 dX6_blocks_4 rfl ?_
  refine at_Vi C (As := [.int x1]) (st := []) (b := 5) (ci := 5) (ct_X5_isGroup σ x1) mb_X5_isGroup ml_X6_173 rfl rfl rfl (by decide) rfl (Nat.le_of_ble_eq_true rfl) dX6_blocks_5 ?_
  rintro _ _ ⟨rfl, ⟨rfl, c127⟩ | ⟨rfl, c127⟩⟩
  · have f129 : iv 0 63 x1 := (iv_of4 c127 (iv_sub (iv_shl1 (a := 0) (b := 6) (show iv 0 6 (ac_gi σ 12) from hI.1 12) (by decide)) (iv_c (c := 1) (x := (1 : Int32)) (by decide)) (by decide) (by decide)))
    refine at_if_ne C 14 dX6_blocks_8 (by decide) (fun c130 => ?_) (fun c130 => absurd c130 (iv_xeq (iv_c (c := 1) (x := (1 : Int32)) (by decide)) (iv_c (c := 0) (x := (0 : Int32)) (by decide)) (by decide)))
    refine at_aload_n C 0 dX6_blocks_14 rfl ?_
    refine gf_X6_44 C dX6_blocks_15 ?_
    refine at_aload_n C 0 dX6_blocks_18 rfl ?_
    refine gf_X6_44 C dX6_blocks_19 ?_
    refine at_Vi C (As := []) (st := [.ref (e_q E 5)]) (b := 5) (ci := 5) (ct_X5_allHouses σ) mb_X5_allHouses ml_X6_192 rfl rfl rfl (by decide) rfl (Nat.le_of_ble_eq_true rfl) dX6_blocks_22 ?_
    rintro _ _ ⟨rfl, rfl⟩
    refine at_Vv C (As := [.int (((1 : Int32) <<< ((ac_gi σ 12) &&& 31)) - (1 : Int32))]) (st := []) (b := 5) (ci := 5) (ct_X5_share σ (((1 : Int32) <<< ((ac_gi σ 12) &&& 31)) - (1 : Int32)) hI) mb_X5_share ml_X6_179 rfl rfl rfl (by decide) rfl (Nat.le_of_ble_eq_true rfl) dX6_blocks_25 ?_
    rintro u133 hg134
    have hG135 := hG0.tr hg134
    refine at_aload_n C 0 dX6_blocks_28 rfl ?_
    refine gf_X6_44 C dX6_blocks_29 ?_
    refine at_iload_n C 1 dX6_blocks_32 rfl ?_
    refine at_Vi C (As := [.int x1]) (st := []) (b := 5) (ci := 5) (ct_X5_wouldLeave u133 x1 hg134.1) mb_X5_wouldLeave ml_X6_195 rfl rfl rfl (by decide) rfl (Nat.le_of_ble_eq_true rfl) dX6_blocks_33 ?_
    rintro _ u138 ⟨hg137, rfl | rfl⟩
    · have hG140 := hG135.tr hg137
      refine at_if_eq C 43 dX6_blocks_36 (by decide) (fun c141 => ?_) (fun c141 => absurd (iv_xne (iv_c (c := 0) (x := (0 : Int32)) (by decide)) (iv_c (c := 0) (x := (0 : Int32)) (by decide))) c141)
      refine at_iconst C (0 : Int32) dX6_blocks_43 (by decide) ?_
      exact hR _ _ _ _ dX6_blocks_44 ⟨hG140, (iv_wk (iv_c (c := 0) (x := (0 : Int32)) (by decide)) (by decide) (by decide) : iv (-2147483648) 2147483647 (0 : Int32))⟩
    · have hG142 := hG135.tr hg137
      refine at_if_eq C 43 dX6_blocks_36 (by decide) (fun c143 => absurd c143 (iv_xeq (iv_c (c := 1) (x := (1 : Int32)) (by decide)) (iv_c (c := 0) (x := (0 : Int32)) (by decide)) (by decide))) (fun c143 => ?_)
      refine at_iconst C (1 : Int32) dX6_blocks_39 (by decide) ?_
      refine at_goto C 44 dX6_blocks_40 (by decide) ?_
      exact hR _ _ _ _ dX6_blocks_44 ⟨hG142, (iv_wk (iv_c (c := 1) (x := (1 : Int32)) (by decide)) (by decide) (by decide) : iv (-2147483648) 2147483647 (1 : Int32))⟩
  · refine at_if_ne C 14 dX6_blocks_8 (by decide) (fun c144 => absurd (iv_xne (iv_c (c := 0) (x := (0 : Int32)) (by decide)) (iv_c (c := 0) (x := (0 : Int32)) (by decide))) c144) (fun c144 => ?_)
    refine at_bipush C (-2 : Int32) dX6_blocks_11 (by decide) ?_
    exact hR _ _ _ _ dX6_blocks_13 ⟨hG0, (iv_wk (iv_c (c := (-2)) (x := (-2 : Int32)) (by decide)) (by decide) (by decide) : iv (-2147483648) 2147483647 (-2 : Int32))⟩
set_option maxHeartbeats 4000000 in
set_option maxRecDepth 100000 in
theorem ct_X6_alone (σ : SS) (hI : Inv σ) : ConI yX6_alone cX6_alone 1 (some .int) 6 (some 0) [] σ (fun r σ' => Gd σ σ' ∧ iv (-2147483648) 2147483647 r) := by
  refine conI_of (by decide) (fun q => Nat.le_of_ble_eq_true rfl) (fun E C en hR => ?_)
  have hG0 : Gd σ σ := Gd.rf hI
  refine at_aload_n C 0 dX6_alone_0 rfl ?_
  refine gf_X6_44 C dX6_alone_1 ?_
  refine at_Vi C (As := []) (st := []) (b := 5) (ci := 5) (ct_X5_firstToLeave σ hI) mb_X5_firstToLeave ml_X6_198 rfl rfl rfl (by decide) rfl (Nat.le_of_ble_eq_true rfl) dX6_alone_4 ?_
  rintro r36 u38 ⟨hg39, f37⟩
  have hG40 := hG0.tr hg39
  exact hR _ _ _ _ dX6_alone_7 ⟨hG40, (show iv (-2147483648) 2147483647 r36 from f37)⟩
set_option maxHeartbeats 4000000 in
set_option maxRecDepth 100000 in
theorem ct_X6_weeks (σ : SS) (x1 : Int32) (x2 : Int32) (hI : Inv σ) : ConI yX6_weeks cX6_weeks 4 (some .int) 4 (some 0) [.int x1, .int x2] σ (fun r σ' => Gd σ σ' ∧ iv (-2147483648) 2147483647 r) := by
  refine conI_of (by decide) (fun q => Nat.le_of_ble_eq_true rfl) (fun E C en hR => ?_)
  have hn3 : 3 < e_n E := by rw [en]; decide
  have hG0 : Gd σ σ := Gd.rf hI
  refine at_iload_n C 1 dX6_weeks_0 rfl ?_
  refine at_iconst C (1 : Int32) dX6_weeks_1 (by decide) ?_
  refine at_bipush C (10 : Int32) dX6_weeks_2 (by decide) ?_
  refine at_Si C (As := [.int x1, .int (1 : Int32), .int (10 : Int32)]) (st := []) (ct_X6_within σ x1 (1 : Int32) (10 : Int32)) mb_X6_within ml_X6_66 rfl (by decide) rfl (Nat.le_of_ble_eq_true rfl) dX6_weeks_4 ?_
  rintro _ _ ⟨rfl, ⟨rfl, c162⟩ | ⟨rfl, c162⟩⟩
  · have f164 : iv 1 10 x1 := (iv_of2 c162 (iv_c (c := 1) (x := (1 : Int32)) (by decide)) (iv_c (c := 10) (x := (10 : Int32)) (by decide)))
    refine at_if_eq C 15 dX6_weeks_7 (by decide) (fun c165 => absurd c165 (iv_xeq (iv_c (c := 1) (x := (1 : Int32)) (by decide)) (iv_c (c := 0) (x := (0 : Int32)) (by decide)) (by decide))) (fun c165 => ?_)
    refine at_iload_n C 2 dX6_weeks_10 rfl ?_
    refine at_iconst C (-1 : Int32) dX6_weeks_11 (by decide) ?_
    refine at_icmp_ge C 18 dX6_weeks_12 (by decide) (fun c166 => ?_) (fun c166 => ?_)
    · have f167 : iv (-1) 2147483647 x2 := (iv_ler (iv_c (c := (-1)) (x := (-1 : Int32)) (by decide)) (iv_any x2) c166)
      refine at_aload_n C 0 dX6_weeks_18 rfl ?_
      refine gf_X6_51 C dX6_weeks_19 ?_
      refine at_iload_n C 1 dX6_weeks_22 rfl ?_
      refine at_Vi C (As := [.int x1]) (st := []) (b := 6) (ci := 2) (ct_X2_fewestWeeks σ x1 hI) mb_X2_fewestWeeks ml_X6_207 rfl rfl rfl (by decide) rfl (Nat.le_of_ble_eq_true rfl) dX6_weeks_23 ?_
      rintro r168 u170 ⟨hg171, f169⟩
      have hG172 := hG0.tr hg171
      refine at_istore_n C (lv' := [(3, .int r168), (0, .ref (e_q E 0)), (1, .int x1), (2, .int x2)]) dX6_weeks_26 hn3 rfl ?_
      refine at_iload_n C 0 dX6_weeks_27 rfl ?_
      refine at_sipush C (1000 : Int32) dX6_weeks_28 (by decide) ?_
      refine at_icmp_ne C 37 dX6_weeks_31 (by decide) (fun c173 => ?_) (fun c173 => ?_)
      · refine at_iload_n C 3 dX6_weeks_37 rfl ?_
        refine at_iconst C (-1 : Int32) dX6_weeks_38 (by decide) ?_
        refine at_icmp_ne C 44 dX6_weeks_39 (by decide) (fun c174 => ?_) (fun c174 => ?_)
        · have f175 : iv 0 2147483647 x2 := (iv_nel f167 (by decide) c174)
          refine at_iload_n C 3 dX6_weeks_44 rfl ?_
          refine at_iload_n C 0 dX6_weeks_45 rfl ?_
          refine at_icmp_ge C 61 dX6_weeks_46 (by decide) (fun c176 => ?_) (fun c176 => ?_)
          · refine at_iconst C (-1 : Int32) dX6_weeks_61 (by decide) ?_
            exact hR _ _ _ _ dX6_weeks_62 ⟨hG172, (iv_wk (iv_c (c := (-1)) (x := (-1 : Int32)) (by decide)) (by decide) (by decide) : iv (-2147483648) 2147483647 (-1 : Int32))⟩
          · have f177 : iv 0 2147483646 x2 := (iv_ltl f175 f169 (Int32.not_le.mp c176))
            have f178 : iv 1 2147483647 r168 := (iv_ltr f175 f169 (Int32.not_le.mp c176))
            refine at_aload_n C 1 dX6_weeks_49 rfl ?_
            refine gf_X6_51 C dX6_weeks_50 ?_
            refine at_iload_n C 3 dX6_weeks_53 rfl ?_
            refine at_iload_n C 2 dX6_weeks_54 rfl ?_
            refine at_Vi C (As := [.int x2, .int x1]) (st := []) (b := 6) (ci := 2) (ct_X2_movedIn u170 x2 x1 hg171.1) mb_X2_movedIn ml_X6_210 rfl rfl rfl (by decide) rfl (Nat.le_of_ble_eq_true rfl) dX6_weeks_55 ?_
            rintro r179 _ ⟨rfl, f180⟩
            refine at_goto C 62 dX6_weeks_58 (by decide) ?_
            exact hR _ _ _ _ dX6_weeks_62 ⟨hG172, (show iv (-2147483648) 2147483647 r179 from f180)⟩
        · have f181 : iv (-1) (-1) x2 := (iv_eql (iv_c (c := (-1)) (x := (-1 : Int32)) (by decide)) c174)
          refine at_iload_n C 0 dX6_weeks_42 rfl ?_
          exact hR _ _ _ _ dX6_weeks_43 ⟨hG172, (show iv (-2147483648) 2147483647 r168 from f169)⟩
      · have f182 : iv 1000 1000 r168 := (iv_eql (iv_c (c := 1000) (x := (1000 : Int32)) (by decide)) c173)
        refine at_bipush C (-5 : Int32) dX6_weeks_34 (by decide) ?_
        exact hR _ _ _ _ dX6_weeks_36 ⟨hG172, (iv_wk (iv_c (c := (-5)) (x := (-5 : Int32)) (by decide)) (by decide) (by decide) : iv (-2147483648) 2147483647 (-5 : Int32))⟩
    · have f183 : iv (-2147483648) (-2) x2 := (iv_ltl (iv_any x2) (iv_c (c := (-1)) (x := (-1 : Int32)) (by decide)) (Int32.not_le.mp c166))
      refine at_bipush C (-10 : Int32) dX6_weeks_15 (by decide) ?_
      exact hR _ _ _ _ dX6_weeks_17 ⟨hG0, (iv_wk (iv_c (c := (-10)) (x := (-10 : Int32)) (by decide)) (by decide) (by decide) : iv (-2147483648) 2147483647 (-10 : Int32))⟩
  · refine at_if_eq C 15 dX6_weeks_7 (by decide) (fun c184 => ?_) (fun c184 => absurd (iv_xne (iv_c (c := 0) (x := (0 : Int32)) (by decide)) (iv_c (c := 0) (x := (0 : Int32)) (by decide))) c184)
    refine at_bipush C (-10 : Int32) dX6_weeks_15 (by decide) ?_
    exact hR _ _ _ _ dX6_weeks_17 ⟨hG0, (iv_wk (iv_c (c := (-10)) (x := (-10 : Int32)) (by decide)) (by decide) (by decide) : iv (-2147483648) 2147483647 (-10 : Int32))⟩
set_option maxHeartbeats 4000000 in
set_option maxRecDepth 100000 in
theorem ct_X6_tower (σ : SS) (x1 : Int32) (x2 : Int32) (hI : Inv σ) : ConI yX6_tower cX6_tower 3 (some .int) 2 (some 0) [.int x1, .int x2] σ (fun r σ' => σ = σ' ∧ iv (-2147483648) 2147483647 r) := by
  refine conI_of (by decide) (fun q => Nat.le_of_ble_eq_true rfl) (fun E C en hR => ?_)
  refine at_aload_n C 0 dX6_tower_0 rfl ?_
  refine gf_X6_12 C dX6_tower_1 ?_
  refine at_iload_n C 1 dX6_tower_4 rfl ?_
  refine at_Vi C (As := [.int x1]) (st := []) (b := 1) (ci := 0) (ct_X0_isMast σ x1) mb_X0_isMast ml_X6_73 rfl rfl rfl (by decide) rfl (Nat.le_of_ble_eq_true rfl) dX6_tower_5 ?_
  rintro _ _ ⟨rfl, ⟨rfl, c85⟩ | ⟨rfl, c85⟩⟩
  · have f87 : iv 0 9 x1 := (iv_of3 c85 (show iv 0 10 (ac_gi σ 0) from hI.1 0))
    refine at_if_eq C 28 dX6_tower_8 (by decide) (fun c88 => absurd c88 (iv_xeq (iv_c (c := 1) (x := (1 : Int32)) (by decide)) (iv_c (c := 0) (x := (0 : Int32)) (by decide)) (by decide))) (fun c88 => ?_)
    refine at_iload_n C 2 dX6_tower_11 rfl ?_
    refine at_iconst C (0 : Int32) dX6_tower_12 (by decide) ?_
    refine at_aload_n C 0 dX6_tower_13 rfl ?_
    refine gf_X6_12 C dX6_tower_14 ?_
    refine gf_X6_70 C dX6_tower_17 ?_
    refine at_iconst C (1 : Int32) dX6_tower_20 (by decide) ?_
    refine at_isub C dX6_tower_21 ?_
    refine at_Si C (As := [.int x2, .int (0 : Int32), .int ((ac_gi σ 1) - (1 : Int32))]) (st := []) (ct_X6_within σ x2 (0 : Int32) ((ac_gi σ 1) - (1 : Int32))) mb_X6_within ml_X6_66 rfl (by decide) rfl (Nat.le_of_ble_eq_true rfl) dX6_tower_22 ?_
    rintro _ _ ⟨rfl, ⟨rfl, c89⟩ | ⟨rfl, c89⟩⟩
    · have f91 : iv 0 5 x2 := (iv_of2 c89 (iv_c (c := 0) (x := (0 : Int32)) (by decide)) (iv_sub (show iv 1 6 (ac_gi σ 1) from hI.1 1) (iv_c (c := 1) (x := (1 : Int32)) (by decide)) (by decide) (by decide)))
      refine at_if_ne C 31 dX6_tower_25 (by decide) (fun c92 => ?_) (fun c92 => absurd c92 (iv_xeq (iv_c (c := 1) (x := (1 : Int32)) (by decide)) (iv_c (c := 0) (x := (0 : Int32)) (by decide)) (by decide)))
      refine at_aload_n C 0 dX6_tower_31 rfl ?_
      refine gf_X6_51 C dX6_tower_32 ?_
      refine at_iload_n C 1 dX6_tower_35 rfl ?_
      refine at_iload_n C 2 dX6_tower_36 rfl ?_
      refine at_Vi C (As := [.int x1, .int x2]) (st := []) (b := 6) (ci := 2) (ct_X2_brokenBy σ x1 x2 hI) mb_X2_brokenBy ml_X6_213 rfl rfl rfl (by decide) rfl (Nat.le_of_ble_eq_true rfl) dX6_tower_37 ?_
      rintro r93 _ ⟨rfl, f94⟩
      exact hR _ _ _ _ dX6_tower_40 ⟨rfl, (show iv (-2147483648) 2147483647 r93 from f94)⟩
    · refine at_if_ne C 31 dX6_tower_25 (by decide) (fun c95 => absurd (iv_xne (iv_c (c := 0) (x := (0 : Int32)) (by decide)) (iv_c (c := 0) (x := (0 : Int32)) (by decide))) c95) (fun c95 => ?_)
      refine at_bipush C (-2 : Int32) dX6_tower_28 (by decide) ?_
      exact hR _ _ _ _ dX6_tower_30 ⟨rfl, (iv_wk (iv_c (c := (-2)) (x := (-2 : Int32)) (by decide)) (by decide) (by decide) : iv (-2147483648) 2147483647 (-2 : Int32))⟩
  · refine at_if_eq C 28 dX6_tower_8 (by decide) (fun c96 => ?_) (fun c96 => absurd (iv_xne (iv_c (c := 0) (x := (0 : Int32)) (by decide)) (iv_c (c := 0) (x := (0 : Int32)) (by decide))) c96)
    refine at_bipush C (-2 : Int32) dX6_tower_28 (by decide) ?_
    exact hR _ _ _ _ dX6_tower_30 ⟨rfl, (iv_wk (iv_c (c := (-2)) (x := (-2 : Int32)) (by decide)) (by decide) (by decide) : iv (-2147483648) 2147483647 (-2 : Int32))⟩
set_option maxHeartbeats 4000000 in
set_option maxRecDepth 100000 in
theorem ct_X6_free (σ : SS) (x1 : Int32) (hI : Inv σ) : ConI yX6_free cX6_free 2 (some .int) 2 (some 0) [.int x1] σ (fun r σ' => σ = σ' ∧ iv (-2147483648) 2147483647 r) := by
  refine conI_of (by decide) (fun q => Nat.le_of_ble_eq_true rfl) (fun E C en hR => ?_)
  refine at_aload_n C 0 dX6_free_0 rfl ?_
  refine gf_X6_12 C dX6_free_1 ?_
  refine at_iload_n C 1 dX6_free_4 rfl ?_
  refine at_Vi C (As := [.int x1]) (st := []) (b := 1) (ci := 0) (ct_X0_isMast σ x1) mb_X0_isMast ml_X6_73 rfl rfl rfl (by decide) rfl (Nat.le_of_ble_eq_true rfl) dX6_free_5 ?_
  rintro _ _ ⟨rfl, ⟨rfl, c50⟩ | ⟨rfl, c50⟩⟩
  · have f52 : iv 0 9 x1 := (iv_of3 c50 (show iv 0 10 (ac_gi σ 0) from hI.1 0))
    refine at_if_eq C 22 dX6_free_8 (by decide) (fun c53 => absurd c53 (iv_xeq (iv_c (c := 1) (x := (1 : Int32)) (by decide)) (iv_c (c := 0) (x := (0 : Int32)) (by decide)) (by decide))) (fun c53 => ?_)
    refine at_aload_n C 0 dX6_free_11 rfl ?_
    refine gf_X6_51 C dX6_free_12 ?_
    refine at_iload_n C 1 dX6_free_15 rfl ?_
    refine at_Vi C (As := [.int x1]) (st := []) (b := 6) (ci := 2) (ct_X2_freeFor σ x1 hI) mb_X2_freeFor ml_X6_216 rfl rfl rfl (by decide) rfl (Nat.le_of_ble_eq_true rfl) dX6_free_16 ?_
    rintro r54 _ ⟨rfl, f55⟩
    refine at_goto C 24 dX6_free_19 (by decide) ?_
    exact hR _ _ _ _ dX6_free_24 ⟨rfl, (show iv (-2147483648) 2147483647 r54 from f55)⟩
  · refine at_if_eq C 22 dX6_free_8 (by decide) (fun c56 => ?_) (fun c56 => absurd (iv_xne (iv_c (c := 0) (x := (0 : Int32)) (by decide)) (iv_c (c := 0) (x := (0 : Int32)) (by decide))) c56)
    refine at_bipush C (-2 : Int32) dX6_free_22 (by decide) ?_
    exact hR _ _ _ _ dX6_free_24 ⟨rfl, (iv_wk (iv_c (c := (-2)) (x := (-2 : Int32)) (by decide)) (by decide) (by decide) : iv (-2147483648) 2147483647 (-2 : Int32))⟩
set_option maxHeartbeats 4000000 in
set_option maxRecDepth 100000 in
theorem ct_X6_could (σ : SS) (x1 : Int32) (x2 : Int32) (hI : Inv σ) : ConI yX6_could cX6_could 5 (some .int) 1 (some 0) [.int x1, .int x2] σ (fun r σ' => σ = σ' ∧ iv (-2147483648) 2147483647 r ∧ ((((0 ≤ (x1).toInt ∧ (x1).toInt < ((1 : Int32) <<< (ac_gi σ 0 &&& 31)).toInt) ∧ (0 ≤ (x2).toInt ∧ (x2).toInt < ((1 : Int32) <<< (ac_gi σ 0 &&& 31)).toInt) ∧ (x2 &&& (x1 ^^^ (-1 : Int32))) = 0) ∧ r = cf_f (ac_ga σ 7) x1 x2 16) ∨ (¬ ((0 ≤ (x1).toInt ∧ (x1).toInt < ((1 : Int32) <<< (ac_gi σ 0 &&& 31)).toInt) ∧ (0 ≤ (x2).toInt ∧ (x2).toInt < ((1 : Int32) <<< (ac_gi σ 0 &&& 31)).toInt) ∧ (x2 &&& (x1 ^^^ (-1 : Int32))) = 0) ∧ r = -2))) := by
  refine conI_of (by decide) (fun q => Nat.le_of_ble_eq_true rfl) (fun E C en hR => ?_)
  have hn3 : 3 < e_n E := by rw [en]; decide
  have hn4 : 4 < e_n E := by rw [en]; decide
  have K38 : ∀ (n38 : Nat) (y3_38 : Int32) (y4_38 : Int32), (16 - (y4_38).toInt).toNat < n38 → iv 0 1023 x1 → iv 0 1023 x2 → iv 0 2147483647 y3_38 → iv 0 16 y4_38 → (y3_38 = cf_f (ac_ga σ 7) x1 x2 (y4_38).toNatClampNeg) → ((0 ≤ (x1).toInt ∧ (x1).toInt < ((1 : Int32) <<< (ac_gi σ 0 &&& 31)).toInt) ∧ (0 ≤ (x2).toInt ∧ (x2).toInt < ((1 : Int32) <<< (ac_gi σ 0 &&& 31)).toInt) ∧ (x2 &&& (x1 ^^^ (-1 : Int32))) = 0) → AT E 38 [(0, .ref (e_q E 0)), (1, .int x1), (2, .int x2), (3, .int y3_38), (4, .int y4_38)] [] σ := by
    intro n38
    induction n38 with
    | zero => intro y3_38 y4_38 hm; exact absurd hm (Nat.not_lt_zero _)
    | succ n38 ih38 =>
      intro y3_38 y4_38 hm38 b1_38 b2_38 b3_38 b4_38 e0_38 e1_38
      refine at_iload C 4 dX6_could_38 rfl ?_
      refine at_bipush C (16 : Int32) dX6_could_40 (by decide) ?_
      refine at_icmp_ge C 71 dX6_could_42 (by decide) (fun c285 => ?_) (fun c285 => ?_)
      · have f286 : iv 16 16 y4_38 := (iv_ler (iv_c (c := 16) (x := (16 : Int32)) (by decide)) b4_38 c285)
        refine at_iload_n C 3 dX6_could_71 rfl ?_
        exact hR _ _ _ _ dX6_could_72 ⟨rfl, (iv_wk b3_38 (by decide) (by decide) : iv (-2147483648) 2147483647 y3_38), (Or.inl ⟨e1_38, by have q := iv_16 (show iv 16 16 y4_38 from f286); have q2 := e0_38; rw [q] at q2; exact q2⟩)⟩
      · have f287 : iv 0 15 y4_38 := (iv_ltl b4_38 (iv_c (c := 16) (x := (16 : Int32)) (by decide)) (Int32.not_le.mp c285))
        refine at_aload_n C 0 dX6_could_45 rfl ?_
        refine gf_X6_55 C dX6_could_46 ?_
        refine at_iload C 4 dX6_could_49 rfl ?_
        refine at_iald C (c := 7) rfl (iv_in (n := 16) f287 (by decide) (by decide)) dX6_could_51 ?_
        refine at_iload_n C 1 dX6_could_52 rfl ?_
        refine at_iand C dX6_could_53 ?_
        refine at_iload_n C 2 dX6_could_54 rfl ?_
        refine at_icmp_ne C 65 dX6_could_55 (by decide) (fun c288 => ?_) (fun c288 => ?_)
        · refine at_iinc C (v := (y4_38 + (1 : Int32))) (lv' := [(4, .int (y4_38 + (1 : Int32))), (0, .ref (e_q E 0)), (1, .int x1), (2, .int x2), (3, .int y3_38)]) 4 dX6_could_65 rfl rfl hn4 rfl ?_
          refine at_goto C 38 dX6_could_68 (by decide) ?_
          exact at_sub [1, 2, 3, 4, 0] rfl (ih38 y3_38 (y4_38 + (1 : Int32)) (mz_up hm38 (ac_ti1 f287 (iv_c (c := 1) (x := (1 : Int32)) (by decide)) (by decide) (by decide) (by decide)) (by decide) (iv_wk (iv_add f287 (iv_c (c := 1) (x := (1 : Int32)) (by decide)) (by decide) (by decide)) (by decide) (by decide) : iv 0 16 (y4_38 + (1 : Int32))).2) (show iv 0 1023 x1 from b1_38) (show iv 0 1023 x2 from b2_38) (show iv 0 2147483647 y3_38 from b3_38) (iv_wk (iv_add f287 (iv_c (c := 1) (x := (1 : Int32)) (by decide)) (by decide) (by decide)) (by decide) (by decide) : iv 0 16 (y4_38 + (1 : Int32))) (cf_n (iv_wk f287 (by decide) (by decide) : iv 0 15 y4_38) e0_38 c288) e1_38)
        · refine at_iload_n C 3 dX6_could_58 rfl ?_
          refine at_iconst C (1 : Int32) dX6_could_59 (by decide) ?_
          refine at_iload C 4 dX6_could_60 rfl ?_
          refine at_ishl C dX6_could_62 ?_
          refine at_ior C dX6_could_63 ?_
          refine at_istore_n C (lv' := [(3, .int (y3_38 ||| ((1 : Int32) <<< (y4_38 &&& 31)))), (0, .ref (e_q E 0)), (1, .int x1), (2, .int x2), (4, .int y4_38)]) dX6_could_64 hn3 rfl ?_
          refine at_iinc C (v := (y4_38 + (1 : Int32))) (lv' := [(4, .int (y4_38 + (1 : Int32))), (3, .int (y3_38 ||| ((1 : Int32) <<< (y4_38 &&& 31)))), (0, .ref (e_q E 0)), (1, .int x1), (2, .int x2)]) 4 dX6_could_65 rfl rfl hn4 rfl ?_
          refine at_goto C 38 dX6_could_68 (by decide) ?_
          exact at_sub [2, 3, 4, 1, 0] rfl (ih38 (y3_38 ||| ((1 : Int32) <<< (y4_38 &&& 31))) (y4_38 + (1 : Int32)) (mz_up hm38 (ac_ti1 f287 (iv_c (c := 1) (x := (1 : Int32)) (by decide)) (by decide) (by decide) (by decide)) (by decide) (iv_wk (iv_add f287 (iv_c (c := 1) (x := (1 : Int32)) (by decide)) (by decide) (by decide)) (by decide) (by decide) : iv 0 16 (y4_38 + (1 : Int32))).2) (show iv 0 1023 x1 from b1_38) (show iv 0 1023 x2 from b2_38) (show iv 0 2147483647 (y3_38 ||| ((1 : Int32) <<< (y4_38 &&& 31))) from (iv_or 31 b3_38 (iv_wk (c := 0) (iv_shl1 (a := 0) (b := 15) f287 (by decide)) (by decide) (Int.le_refl _)) (by decide) (by decide) (by decide))) (iv_wk (iv_add f287 (iv_c (c := 1) (x := (1 : Int32)) (by decide)) (by decide) (by decide)) (by decide) (by decide) : iv 0 16 (y4_38 + (1 : Int32))) (cf_y (iv_wk f287 (by decide) (by decide) : iv 0 15 y4_38) e0_38 c288) e1_38)
  refine at_aload_n C 0 dX6_could_0 rfl ?_
  refine gf_X6_12 C dX6_could_1 ?_
  refine at_iload_n C 1 dX6_could_4 rfl ?_
  refine at_Vi C (As := [.int x1]) (st := []) (b := 1) (ci := 0) (ct_X0_isSet σ x1) mb_X0_isSet ml_X6_95 rfl rfl rfl (by decide) rfl (Nat.le_of_ble_eq_true rfl) dX6_could_5 ?_
  rintro _ _ ⟨rfl, ⟨rfl, c289⟩ | ⟨rfl, c289⟩⟩
  · have f291 : iv 0 1023 x1 := (iv_of3 c289 (iv_shl1 (a := 0) (b := 10) (show iv 0 10 (ac_gi σ 0) from hI.1 0) (by decide)))
    refine at_if_eq C 30 dX6_could_8 (by decide) (fun c292 => absurd c292 (iv_xeq (iv_c (c := 1) (x := (1 : Int32)) (by decide)) (iv_c (c := 0) (x := (0 : Int32)) (by decide)) (by decide))) (fun c292 => ?_)
    refine at_aload_n C 0 dX6_could_11 rfl ?_
    refine gf_X6_12 C dX6_could_12 ?_
    refine at_iload_n C 2 dX6_could_15 rfl ?_
    refine at_Vi C (As := [.int x2]) (st := []) (b := 1) (ci := 0) (ct_X0_isSet σ x2) mb_X0_isSet ml_X6_95 rfl rfl rfl (by decide) rfl (Nat.le_of_ble_eq_true rfl) dX6_could_16 ?_
    rintro _ _ ⟨rfl, ⟨rfl, c293⟩ | ⟨rfl, c293⟩⟩
    · have f295 : iv 0 1023 x2 := (iv_of3 c293 (iv_shl1 (a := 0) (b := 10) (show iv 0 10 (ac_gi σ 0) from hI.1 0) (by decide)))
      refine at_if_eq C 30 dX6_could_19 (by decide) (fun c296 => absurd c296 (iv_xeq (iv_c (c := 1) (x := (1 : Int32)) (by decide)) (iv_c (c := 0) (x := (0 : Int32)) (by decide)) (by decide))) (fun c296 => ?_)
      refine at_iload_n C 2 dX6_could_22 rfl ?_
      refine at_iload_n C 1 dX6_could_23 rfl ?_
      refine at_iconst C (-1 : Int32) dX6_could_24 (by decide) ?_
      refine at_ixor C dX6_could_25 ?_
      refine at_iand C dX6_could_26 ?_
      refine at_if_eq C 33 dX6_could_27 (by decide) (fun c297 => ?_) (fun c297 => ?_)
      · have f298 : iv 0 0 (x2 &&& (x1 ^^^ (-1 : Int32))) := (iv_eql (iv_c (c := 0) (x := (0 : Int32)) (by decide)) c297)
        refine at_iconst C (0 : Int32) dX6_could_33 (by decide) ?_
        refine at_istore_n C (lv' := [(3, .int (0 : Int32)), (0, .ref (e_q E 0)), (1, .int x1), (2, .int x2)]) dX6_could_34 hn3 rfl ?_
        refine at_iconst C (0 : Int32) dX6_could_35 (by decide) ?_
        refine at_istore C (lv' := [(4, .int (0 : Int32)), (3, .int (0 : Int32)), (0, .ref (e_q E 0)), (1, .int x1), (2, .int x2)]) dX6_could_36 hn4 rfl ?_
        exact at_sub [2, 3, 4, 1, 0] rfl (K38 _ (0 : Int32) (0 : Int32) (Nat.lt_succ_self _) (show iv 0 1023 x1 from f291) (show iv 0 1023 x2 from f295) (iv_wk (iv_c (c := 0) (x := (0 : Int32)) (by decide)) (by decide) (by decide) : iv 0 2147483647 (0 : Int32)) (iv_wk (iv_c (c := 0) (x := (0 : Int32)) (by decide)) (by decide) (by decide) : iv 0 16 (0 : Int32)) rfl ⟨c289, c293, c297⟩)
      · have f299 : iv 1 1023 (x2 &&& (x1 ^^^ (-1 : Int32))) := (iv_nel (iv_andl f295) (by decide) c297)
        refine at_bipush C (-2 : Int32) dX6_could_30 (by decide) ?_
        exact hR _ _ _ _ dX6_could_32 ⟨rfl, (iv_wk (iv_c (c := (-2)) (x := (-2 : Int32)) (by decide)) (by decide) (by decide) : iv (-2147483648) 2147483647 (-2 : Int32)), (Or.inr ⟨fun z => c297 z.2.2, rfl⟩)⟩
    · refine at_if_eq C 30 dX6_could_19 (by decide) (fun c300 => ?_) (fun c300 => absurd (iv_xne (iv_c (c := 0) (x := (0 : Int32)) (by decide)) (iv_c (c := 0) (x := (0 : Int32)) (by decide))) c300)
      refine at_bipush C (-2 : Int32) dX6_could_30 (by decide) ?_
      exact hR _ _ _ _ dX6_could_32 ⟨rfl, (iv_wk (iv_c (c := (-2)) (x := (-2 : Int32)) (by decide)) (by decide) (by decide) : iv (-2147483648) 2147483647 (-2 : Int32)), (Or.inr ⟨fun z => c293 z.2.1, rfl⟩)⟩
  · refine at_if_eq C 30 dX6_could_8 (by decide) (fun c301 => ?_) (fun c301 => absurd (iv_xne (iv_c (c := 0) (x := (0 : Int32)) (by decide)) (iv_c (c := 0) (x := (0 : Int32)) (by decide))) c301)
    refine at_bipush C (-2 : Int32) dX6_could_30 (by decide) ?_
    exact hR _ _ _ _ dX6_could_32 ⟨rfl, (iv_wk (iv_c (c := (-2)) (x := (-2 : Int32)) (by decide)) (by decide) (by decide) : iv (-2147483648) 2147483647 (-2 : Int32)), (Or.inr ⟨fun z => c289 z.1, rfl⟩)⟩
set_option maxHeartbeats 4000000 in
set_option maxRecDepth 100000 in
theorem ct_X6_count (σ : SS) (x1 : Int32) (hI : Inv σ) : ConI yX6_count cX6_count 2 (some .int) 1 (some 0) [.int x1] σ (fun r σ' => σ = σ' ∧ iv (-2147483648) 2147483647 r ∧ (cnt_p x1 r (ac_gi σ 0) (ac_bc (ac_gi σ 4)) (ac_gi σ 12) (ac_gi σ 13))) := by
  refine conI_of (by decide) (fun q => Nat.le_of_ble_eq_true rfl) (fun E C en hR => ?_)
  refine at_iload_n C 1 dX6_count_0 rfl ?_
  by_cases c570 : x1 = (0 : Int32)
  · refine at_tabIn C 32 dX6_count_1 (by rw [c570]; decide) (by rw [c570]; decide) (by rw [c570]; rfl) (by decide) ?_
    have f58 : iv 0 0 x1 := (iv_eql (iv_c (c := 0) (x := (0 : Int32)) (by decide)) c570)
    refine at_aload_n C 0 dX6_count_32 rfl ?_
    refine gf_X6_12 C dX6_count_33 ?_
    refine gf_X6_59 C dX6_count_36 ?_
    exact hR _ _ _ _ dX6_count_39 ⟨rfl, (iv_wk (show iv 0 10 (ac_gi σ 0) from hI.1 0) (by decide) (by decide) : iv (-2147483648) 2147483647 (ac_gi σ 0)), (Or.inl ⟨c570, rfl⟩)⟩
  by_cases c571 : x1 = (1 : Int32)
  · refine at_tabIn C 40 dX6_count_1 (by rw [c571]; decide) (by rw [c571]; decide) (by rw [c571]; rfl) (by decide) ?_
    have f59 : iv 1 1 x1 := (iv_eql (iv_c (c := 1) (x := (1 : Int32)) (by decide)) c571)
    refine at_aload_n C 0 dX6_count_40 rfl ?_
    refine gf_X6_37 C dX6_count_41 ?_
    refine gf_X6_121 C dX6_count_44 ?_
    refine at_Si C (As := [.int (ac_gi σ 4)]) (st := []) (ct_J6_bitCount_0f7a4 σ (ac_gi σ 4)) mb_J6_bitCount_0f7a4 ml_X6_219 rfl (by decide) rfl (Nat.le_of_ble_eq_true rfl) dX6_count_47 ?_
    rintro r60 _ ⟨rfl, f61, mo62⟩
    exact hR _ _ _ _ dX6_count_50 ⟨rfl, (iv_wk f61 (by decide) (by decide) : iv (-2147483648) 2147483647 r60), (Or.inr (Or.inl ⟨c571, mo62⟩))⟩
  by_cases c572 : x1 = (2 : Int32)
  · refine at_tabIn C 51 dX6_count_1 (by rw [c572]; decide) (by rw [c572]; decide) (by rw [c572]; rfl) (by decide) ?_
    have f63 : iv 2 2 x1 := (iv_eql (iv_c (c := 2) (x := (2 : Int32)) (by decide)) c572)
    refine at_aload_n C 0 dX6_count_51 rfl ?_
    refine gf_X6_44 C dX6_count_52 ?_
    refine gf_X6_156 C dX6_count_55 ?_
    exact hR _ _ _ _ dX6_count_58 ⟨rfl, (iv_wk (show iv 0 6 (ac_gi σ 12) from hI.1 12) (by decide) (by decide) : iv (-2147483648) 2147483647 (ac_gi σ 12)), (Or.inr (Or.inr (Or.inl ⟨c572, rfl⟩)))⟩
  by_cases c573 : x1 = (3 : Int32)
  · refine at_tabIn C 59 dX6_count_1 (by rw [c573]; decide) (by rw [c573]; decide) (by rw [c573]; rfl) (by decide) ?_
    have f64 : iv 3 3 x1 := (iv_eql (iv_c (c := 3) (x := (3 : Int32)) (by decide)) c573)
    refine at_aload_n C 0 dX6_count_59 rfl ?_
    refine gf_X6_44 C dX6_count_60 ?_
    refine gf_X6_166 C dX6_count_63 ?_
    exact hR _ _ _ _ dX6_count_66 ⟨rfl, (iv_wk (show iv 0 24 (ac_gi σ 13) from hI.1 13) (by decide) (by decide) : iv (-2147483648) 2147483647 (ac_gi σ 13)), (Or.inr (Or.inr (Or.inr (Or.inl ⟨c573, rfl⟩))))⟩
  refine at_tabOut C 67 dX6_count_1 (tab_out (lo := 0) (hi := 3) (fun z1 z2 => by have := iv_ne c570; have := iv_ne c571; have := iv_ne c572; have := iv_ne c573; simp at *; omega)) (by decide) ?_
  refine at_bipush C (-2 : Int32) dX6_count_67 (by decide) ?_
  exact hR _ _ _ _ dX6_count_69 ⟨rfl, (iv_wk (iv_c (c := (-2)) (x := (-2 : Int32)) (by decide)) (by decide) (by decide) : iv (-2147483648) 2147483647 (-2 : Int32)), (Or.inr (Or.inr (Or.inr (Or.inr ⟨⟨c570, c571, c572, c573⟩, rfl⟩))))⟩
set_option maxHeartbeats 4000000 in
set_option maxRecDepth 100000 in
theorem ct_X6_mix (σ : SS) (x1 : Int64) (x2 : Int32) : ConL yX6_mix cX6_mix 3 (some .long) 0 none [.long x1, .int x2] σ (fun r σ' => σ = σ') := by
  refine conL_of (by decide) (fun q => Nat.le_of_ble_eq_true rfl) (fun E C en hR => ?_)
  refine at_ldc2 C (31 : Int64) dX6_mix_0 kc_X6_248 ?_
  refine at_lload_n C 0 dX6_mix_3 rfl ?_
  refine at_lmul C dX6_mix_4 ?_
  refine at_iload_n C 1 dX6_mix_5 rfl ?_
  refine at_i2l C dX6_mix_6 ?_
  refine at_ladd C dX6_mix_7 ?_
  exact hR _ _ _ _ dX6_mix_8 rfl
set_option maxHeartbeats 4000000 in
set_option maxRecDepth 100000 in
theorem ct_X6_mixMast (σ : SS) (x1 : Int64) (x2 : Int32) (hI : Inv σ) (g2 : iv 0 9 x2) : ConL yX6_mixMast cX6_mixMast 7 (some .long) 2 (some 0) [.long x1, .int x2] σ (fun r σ' => σ = σ') := by
  refine conL_of (by decide) (fun q => Nat.le_of_ble_eq_true rfl) (fun E C en hR => ?_)
  have hn5 : 5 < e_n E := by rw [en]; decide
  have hn6 : 6 < e_n E := by rw [en]; decide
  have K18 : ∀ (n18 : Nat) (y4_18 : Int64) (y6_18 : Int32), (10 - (y6_18).toInt).toNat < n18 → iv 0 10 y6_18 → AT E 18 [(0, .ref (e_q E 0)), (3, .int x2), (4, .long y4_18), (6, .int y6_18)] [] σ := by
    intro n18
    induction n18 with
    | zero => intro y4_18 y6_18 hm; exact absurd hm (Nat.not_lt_zero _)
    | succ n18 ih18 =>
      intro y4_18 y6_18 hm18 b6_18
      refine at_iload C 3 dX6_mixMast_18 rfl ?_
      refine at_aload_n C 0 dX6_mixMast_20 rfl ?_
      refine gf_X6_12 C dX6_mixMast_21 ?_
      refine gf_X6_59 C dX6_mixMast_24 ?_
      refine at_icmp_ge C 59 dX6_mixMast_27 (by decide) (fun c233 => ?_) (fun c233 => ?_)
      · refine at_lload C 2 dX6_mixMast_59 rfl ?_
        refine at_aload_n C 0 dX6_mixMast_61 rfl ?_
        refine gf_X6_37 C dX6_mixMast_62 ?_
        refine gf_X6_153 C dX6_mixMast_65 ?_
        refine at_iload_n C 1 dX6_mixMast_68 rfl ?_
        refine at_iald C (c := 17) rfl (iv_in (n := 10) g2 (by decide) (by decide)) dX6_mixMast_69 ?_
        refine at_Sl C (As := [.long y4_18, .int (ac_ga σ 17 (x2).toNatClampNeg)]) (st := []) (ct_X6_mix σ y4_18 (ac_ga σ 17 (x2).toNatClampNeg)) mb_X6_mix ml_X6_229 rfl (by decide) rfl (Nat.le_of_ble_eq_true rfl) dX6_mixMast_70 ?_
        rintro r234 _ rfl
        refine at_aload_n C 0 dX6_mixMast_73 rfl ?_
        refine gf_X6_37 C dX6_mixMast_74 ?_
        refine gf_X6_245 C dX6_mixMast_77 ?_
        refine at_iload_n C 1 dX6_mixMast_80 rfl ?_
        refine at_iald C (c := 18) rfl (iv_in (n := 10) g2 (by decide) (by decide)) dX6_mixMast_81 ?_
        refine at_Sl C (As := [.long r234, .int (ac_ga σ 18 (x2).toNatClampNeg)]) (st := []) (ct_X6_mix σ r234 (ac_ga σ 18 (x2).toNatClampNeg)) mb_X6_mix ml_X6_229 rfl (by decide) rfl (Nat.le_of_ble_eq_true rfl) dX6_mixMast_82 ?_
        rintro r235 _ rfl
        refine at_lstore C (lv' := [(4, .long r235), (0, .ref (e_q E 0)), (3, .int x2), (6, .int y6_18)]) dX6_mixMast_85 hn5 rfl ?_
        refine at_lload C 0 dX6_mixMast_87 rfl ?_
        refine at_aload_n C 1 dX6_mixMast_89 rfl ?_
        refine gf_X6_51 C dX6_mixMast_90 ?_
        refine gf_X6_201 C dX6_mixMast_93 ?_
        refine at_iload_n C 2 dX6_mixMast_96 rfl ?_
        refine at_iald C (c := 27) rfl (iv_in (n := 10) g2 (by decide) (by decide)) dX6_mixMast_97 ?_
        refine at_Sl C (As := [.long r235, .int (ac_ga σ 27 (x2).toNatClampNeg)]) (st := []) (ct_X6_mix σ r235 (ac_ga σ 27 (x2).toNatClampNeg)) mb_X6_mix ml_X6_229 rfl (by decide) rfl (Nat.le_of_ble_eq_true rfl) dX6_mixMast_98 ?_
        rintro r236 _ rfl
        refine at_aload_n C 1 dX6_mixMast_101 rfl ?_
        refine gf_X6_51 C dX6_mixMast_102 ?_
        refine gf_X6_204 C dX6_mixMast_105 ?_
        refine at_iload_n C 2 dX6_mixMast_108 rfl ?_
        refine at_iald C (c := 28) rfl (iv_in (n := 10) g2 (by decide) (by decide)) dX6_mixMast_109 ?_
        refine at_Sl C (As := [.long r236, .int (ac_ga σ 28 (x2).toNatClampNeg)]) (st := []) (ct_X6_mix σ r236 (ac_ga σ 28 (x2).toNatClampNeg)) mb_X6_mix ml_X6_229 rfl (by decide) rfl (Nat.le_of_ble_eq_true rfl) dX6_mixMast_110 ?_
        rintro r237 _ rfl
        exact hR _ _ _ _ dX6_mixMast_113 rfl
      · have f238 : iv 0 9 y6_18 := (iv_ltl b6_18 (show iv 0 10 (ac_gi σ 0) from hI.1 0) (Int32.not_le.mp c233))
        have f239 : iv 1 10 (ac_gi σ 0) := (iv_ltr b6_18 (show iv 0 10 (ac_gi σ 0) from hI.1 0) (Int32.not_le.mp c233))
        refine at_iload C 3 dX6_mixMast_30 rfl ?_
        refine at_iload_n C 1 dX6_mixMast_32 rfl ?_
        refine at_icmp_eq C 53 dX6_mixMast_33 (by decide) (fun c240 => ?_) (fun c240 => ?_)
        · refine at_iinc C (v := (y6_18 + (1 : Int32))) (lv' := [(6, .int (y6_18 + (1 : Int32))), (0, .ref (e_q E 0)), (3, .int x2), (4, .long y4_18)]) 3 dX6_mixMast_53 rfl rfl hn6 rfl ?_
          refine at_goto C 18 dX6_mixMast_56 (by decide) ?_
          exact at_sub [1, 2, 3, 0] rfl (ih18 y4_18 (y6_18 + (1 : Int32)) (mz_up hm18 (ac_ti1 f238 (iv_c (c := 1) (x := (1 : Int32)) (by decide)) (by decide) (by decide) (by decide)) (by decide) (iv_wk (iv_add f238 (iv_c (c := 1) (x := (1 : Int32)) (by decide)) (by decide) (by decide)) (by decide) (by decide) : iv 0 10 (y6_18 + (1 : Int32))).2) (iv_wk (iv_add f238 (iv_c (c := 1) (x := (1 : Int32)) (by decide)) (by decide) (by decide)) (by decide) (by decide) : iv 0 10 (y6_18 + (1 : Int32))))
        · refine at_lload C 2 dX6_mixMast_36 rfl ?_
          refine at_aload_n C 0 dX6_mixMast_38 rfl ?_
          refine gf_X6_12 C dX6_mixMast_39 ?_
          refine at_iload_n C 1 dX6_mixMast_42 rfl ?_
          refine at_iload C 3 dX6_mixMast_43 rfl ?_
          refine at_Vi C (As := [.int x2, .int y6_18]) (st := [.long y4_18]) (b := 1) (ci := 0) (ct_X0_pairOf σ x2 y6_18 hI) mb_X0_pairOf ml_X6_77 rfl rfl rfl (by decide) rfl (Nat.le_of_ble_eq_true rfl) dX6_mixMast_45 ?_
          rintro _ _ (⟨c241, rfl, rfl⟩ | ⟨c243, rfl, rfl⟩)
          · show AT E 48 [(0, .ref (e_q E 0)), (3, .int x2), (4, .long y4_18), (6, .int y6_18)] [.int (0 : Int32), .long y4_18] σ
            refine at_Sl C (As := [.long y4_18, .int (0 : Int32)]) (st := []) (ct_X6_mix σ y4_18 (0 : Int32)) mb_X6_mix ml_X6_229 rfl (by decide) rfl (Nat.le_of_ble_eq_true rfl) dX6_mixMast_48 ?_
            rintro r245 _ rfl
            refine at_lstore C (lv' := [(4, .long r245), (0, .ref (e_q E 0)), (3, .int x2), (6, .int y6_18)]) dX6_mixMast_51 hn5 rfl ?_
            refine at_iinc C (v := (y6_18 + (1 : Int32))) (lv' := [(6, .int (y6_18 + (1 : Int32))), (4, .long r245), (0, .ref (e_q E 0)), (3, .int x2)]) 3 dX6_mixMast_53 rfl rfl hn6 rfl ?_
            refine at_goto C 18 dX6_mixMast_56 (by decide) ?_
            exact at_sub [2, 3, 1, 0] rfl (ih18 r245 (y6_18 + (1 : Int32)) (mz_up hm18 (ac_ti1 f238 (iv_c (c := 1) (x := (1 : Int32)) (by decide)) (by decide) (by decide) (by decide)) (by decide) (iv_wk (iv_add f238 (iv_c (c := 1) (x := (1 : Int32)) (by decide)) (by decide) (by decide)) (by decide) (by decide) : iv 0 10 (y6_18 + (1 : Int32))).2) (iv_wk (iv_add f238 (iv_c (c := 1) (x := (1 : Int32)) (by decide)) (by decide) (by decide)) (by decide) (by decide) : iv 0 10 (y6_18 + (1 : Int32))))
          · show AT E 48 [(0, .ref (e_q E 0)), (3, .int x2), (4, .long y4_18), (6, .int y6_18)] [.int (ac_ga σ 9 (((x2 * (10 : Int32)) + y6_18)).toNatClampNeg), .long y4_18] σ
            refine at_Sl C (As := [.long y4_18, .int (ac_ga σ 9 (((x2 * (10 : Int32)) + y6_18)).toNatClampNeg)]) (st := []) (ct_X6_mix σ y4_18 (ac_ga σ 9 (((x2 * (10 : Int32)) + y6_18)).toNatClampNeg)) mb_X6_mix ml_X6_229 rfl (by decide) rfl (Nat.le_of_ble_eq_true rfl) dX6_mixMast_48 ?_
            rintro r246 _ rfl
            refine at_lstore C (lv' := [(4, .long r246), (0, .ref (e_q E 0)), (3, .int x2), (6, .int y6_18)]) dX6_mixMast_51 hn5 rfl ?_
            refine at_iinc C (v := (y6_18 + (1 : Int32))) (lv' := [(6, .int (y6_18 + (1 : Int32))), (4, .long r246), (0, .ref (e_q E 0)), (3, .int x2)]) 3 dX6_mixMast_53 rfl rfl hn6 rfl ?_
            refine at_goto C 18 dX6_mixMast_56 (by decide) ?_
            exact at_sub [2, 3, 1, 0] rfl (ih18 r246 (y6_18 + (1 : Int32)) (mz_up hm18 (ac_ti1 f238 (iv_c (c := 1) (x := (1 : Int32)) (by decide)) (by decide) (by decide) (by decide)) (by decide) (iv_wk (iv_add f238 (iv_c (c := 1) (x := (1 : Int32)) (by decide)) (by decide) (by decide)) (by decide) (by decide) : iv 0 10 (y6_18 + (1 : Int32))).2) (iv_wk (iv_add f238 (iv_c (c := 1) (x := (1 : Int32)) (by decide)) (by decide) (by decide)) (by decide) (by decide) : iv 0 10 (y6_18 + (1 : Int32))))
  refine at_lload_n C 1 dX6_mixMast_0 rfl ?_
  refine at_aload_n C 0 dX6_mixMast_1 rfl ?_
  refine gf_X6_12 C dX6_mixMast_2 ?_
  refine gf_X6_89 C dX6_mixMast_5 ?_
  refine at_iload_n C 2 dX6_mixMast_8 rfl ?_
  refine at_iald C (c := 8) rfl (iv_in (n := 10) g2 (by decide) (by decide)) dX6_mixMast_9 ?_
  refine at_Sl C (As := [.long x1, .int (ac_ga σ 8 (x2).toNatClampNeg)]) (st := []) (ct_X6_mix σ x1 (ac_ga σ 8 (x2).toNatClampNeg)) mb_X6_mix ml_X6_229 rfl (by decide) rfl (Nat.le_of_ble_eq_true rfl) dX6_mixMast_10 ?_
  rintro r247 _ rfl
  refine at_lstore C (lv' := [(4, .long r247), (0, .ref (e_q E 0)), (1, .long x1), (3, .int x2)]) dX6_mixMast_13 hn5 rfl ?_
  refine at_iconst C (0 : Int32) dX6_mixMast_15 (by decide) ?_
  refine at_istore C (lv' := [(6, .int (0 : Int32)), (4, .long r247), (0, .ref (e_q E 0)), (1, .long x1), (3, .int x2)]) dX6_mixMast_16 hn6 rfl ?_
  exact at_sub [2, 4, 1, 0] rfl (K18 _ r247 (0 : Int32) (Nat.lt_succ_self _) (iv_wk (iv_c (c := 0) (x := (0 : Int32)) (by decide)) (by decide) (by decide) : iv 0 10 (0 : Int32)))
set_option maxHeartbeats 4000000 in
set_option maxRecDepth 100000 in
theorem ct_X6_digest (σ : SS) (hI : Inv σ) : ConL yX6_digest cX6_digest 4 (some .long) 17 (some 0) [] σ (fun r σ' => Gd σ σ') := by
  refine conL_of (by decide) (fun q => Nat.le_of_ble_eq_true rfl) (fun E C en hR => ?_)
  have hn2 : 2 < e_n E := by rw [en]; decide
  have hn3 : 3 < e_n E := by rw [en]; decide
  have hG0 : Gd σ σ := Gd.rf hI
  have K227 : ∀ (n227 : Nat) (y1_227 : Int64) (y3_227 : Int32) (s227 : SS), (4 - (y3_227).toInt).toNat < n227 → iv 0 4 y3_227 → Gd σ s227 → AT E 227 [(0, .ref (e_q E 0)), (1, .long y1_227), (3, .int y3_227)] [] s227 := by
    intro n227
    induction n227 with
    | zero => intro y1_227 y3_227 s227 hm; exact absurd hm (Nat.not_lt_zero _)
    | succ n227 ih227 =>
      intro y1_227 y3_227 s227 hm227 b3_227 hG_227
      refine at_iload_n C 2 dX6_digest_227 rfl ?_
      refine at_iconst C (3 : Int32) dX6_digest_228 (by decide) ?_
      refine at_icmp_gt C 251 dX6_digest_229 (by decide) (fun c728 => ?_) (fun c728 => ?_)
      · have f729 : iv 4 4 y3_227 := (iv_ltr (iv_c (c := 3) (x := (3 : Int32)) (by decide)) b3_227 c728)
        refine at_lload_n C 1 dX6_digest_251 rfl ?_
        exact hR _ _ _ _ dX6_digest_252 hG_227
      · have f730 : iv 0 3 y3_227 := (iv_lel b3_227 (iv_c (c := 3) (x := (3 : Int32)) (by decide)) (Int32.not_lt.mp c728))
        refine at_lload_n C 1 dX6_digest_232 rfl ?_
        refine at_aload_n C 0 dX6_digest_233 rfl ?_
        refine gf_X6_37 C dX6_digest_234 ?_
        refine at_iload_n C 2 dX6_digest_237 rfl ?_
        refine at_Vi C (As := [.int y3_227]) (st := [.long y1_227]) (b := 4) (ci := 1) (ct_X1_ending s227 y3_227 hG_227.1) mb_X1_ending ml_X6_137 rfl rfl rfl (by decide) rfl (Nat.le_of_ble_eq_true rfl) dX6_digest_238 ?_
        rintro r731 _ ⟨rfl, f732⟩
        refine at_Sl C (As := [.long y1_227, .int r731]) (st := []) (ct_X6_mix s227 y1_227 r731) mb_X6_mix ml_X6_229 rfl (by decide) rfl (Nat.le_of_ble_eq_true rfl) dX6_digest_241 ?_
        rintro r733 _ rfl
        refine at_lstore_n C (lv' := [(1, .long r733), (0, .ref (e_q E 0)), (3, .int y3_227)]) dX6_digest_244 hn2 rfl ?_
        refine at_iinc C (v := (y3_227 + (1 : Int32))) (lv' := [(3, .int (y3_227 + (1 : Int32))), (1, .long r733), (0, .ref (e_q E 0))]) 2 dX6_digest_245 rfl rfl hn3 rfl ?_
        refine at_goto C 227 dX6_digest_248 (by decide) ?_
        exact at_sub [2, 1, 0] rfl (ih227 r733 (y3_227 + (1 : Int32)) s227 (mz_up hm227 (ac_ti1 f730 (iv_c (c := 1) (x := (1 : Int32)) (by decide)) (by decide) (by decide) (by decide)) (by decide) (iv_wk (iv_add f730 (iv_c (c := 1) (x := (1 : Int32)) (by decide)) (by decide) (by decide)) (by decide) (by decide) : iv 0 4 (y3_227 + (1 : Int32))).2) (iv_wk (iv_add f730 (iv_c (c := 1) (x := (1 : Int32)) (by decide)) (by decide) (by decide)) (by decide) (by decide) : iv 0 4 (y3_227 + (1 : Int32))) hG_227)
  have K193 : ∀ (n193 : Nat) (y1_193 : Int64) (y3_193 : Int32), (16 - (y3_193).toInt).toNat < n193 → iv 0 16 y3_193 → AT E 193 [(0, .ref (e_q E 0)), (1, .long y1_193), (3, .int y3_193)] [] σ := by
    intro n193
    induction n193 with
    | zero => intro y1_193 y3_193 hm; exact absurd hm (Nat.not_lt_zero _)
    | succ n193 ih193 =>
      intro y1_193 y3_193 hm193 b3_193
      refine at_iload_n C 2 dX6_digest_193 rfl ?_
      refine at_bipush C (16 : Int32) dX6_digest_194 (by decide) ?_
      refine at_icmp_ge C 216 dX6_digest_196 (by decide) (fun c734 => ?_) (fun c734 => ?_)
      · have f735 : iv 16 16 y3_193 := (iv_ler (iv_c (c := 16) (x := (16 : Int32)) (by decide)) b3_193 c734)
        refine at_aload_n C 0 dX6_digest_216 rfl ?_
        refine gf_X6_37 C dX6_digest_217 ?_
        refine at_iconst C (-1 : Int32) dX6_digest_220 (by decide) ?_
        refine at_iconst C (0 : Int32) dX6_digest_221 (by decide) ?_
        refine at_Vv C (As := [.int (-1 : Int32), .int (0 : Int32)]) (st := []) (b := 4) (ci := 1) (ct_X1_letFall σ (-1 : Int32) (0 : Int32) hI) mb_X1_letFall ml_X6_133 rfl rfl rfl (by decide) rfl (Nat.le_of_ble_eq_true rfl) dX6_digest_222 ?_
        rintro u736 hg737
        have hG738 := hG0.tr hg737
        refine at_iconst C (0 : Int32) dX6_digest_225 (by decide) ?_
        refine at_istore_n C (lv' := [(3, .int (0 : Int32)), (0, .ref (e_q E 0)), (1, .long y1_193)]) dX6_digest_226 hn3 rfl ?_
        exact at_sub [1, 2, 0] rfl (K227 _ y1_193 (0 : Int32) u736 (Nat.lt_succ_self _) (iv_wk (iv_c (c := 0) (x := (0 : Int32)) (by decide)) (by decide) (by decide) : iv 0 4 (0 : Int32)) hG738)
      · have f739 : iv 0 15 y3_193 := (iv_ltl b3_193 (iv_c (c := 16) (x := (16 : Int32)) (by decide)) (Int32.not_le.mp c734))
        refine at_lload_n C 1 dX6_digest_199 rfl ?_
        refine at_aload_n C 0 dX6_digest_200 rfl ?_
        refine gf_X6_55 C dX6_digest_201 ?_
        refine at_iload_n C 2 dX6_digest_204 rfl ?_
        refine at_iald C (c := 7) rfl (iv_in (n := 16) f739 (by decide) (by decide)) dX6_digest_205 ?_
        refine at_Sl C (As := [.long y1_193, .int (ac_ga σ 7 (y3_193).toNatClampNeg)]) (st := []) (ct_X6_mix σ y1_193 (ac_ga σ 7 (y3_193).toNatClampNeg)) mb_X6_mix ml_X6_229 rfl (by decide) rfl (Nat.le_of_ble_eq_true rfl) dX6_digest_206 ?_
        rintro r740 _ rfl
        refine at_lstore_n C (lv' := [(1, .long r740), (0, .ref (e_q E 0)), (3, .int y3_193)]) dX6_digest_209 hn2 rfl ?_
        refine at_iinc C (v := (y3_193 + (1 : Int32))) (lv' := [(3, .int (y3_193 + (1 : Int32))), (1, .long r740), (0, .ref (e_q E 0))]) 2 dX6_digest_210 rfl rfl hn3 rfl ?_
        refine at_goto C 193 dX6_digest_213 (by decide) ?_
        exact at_sub [2, 1, 0] rfl (ih193 r740 (y3_193 + (1 : Int32)) (mz_up hm193 (ac_ti1 f739 (iv_c (c := 1) (x := (1 : Int32)) (by decide)) (by decide) (by decide) (by decide)) (by decide) (iv_wk (iv_add f739 (iv_c (c := 1) (x := (1 : Int32)) (by decide)) (by decide) (by decide)) (by decide) (by decide) : iv 0 16 (y3_193 + (1 : Int32))).2) (iv_wk (iv_add f739 (iv_c (c := 1) (x := (1 : Int32)) (by decide)) (by decide) (by decide)) (by decide) (by decide) : iv 0 16 (y3_193 + (1 : Int32))))
  have K160 : ∀ (n160 : Nat) (y1_160 : Int64) (y3_160 : Int32), (6 - (y3_160).toInt).toNat < n160 → iv 0 6 y3_160 → AT E 160 [(0, .ref (e_q E 0)), (1, .long y1_160), (3, .int y3_160)] [] σ := by
    intro n160
    induction n160 with
    | zero => intro y1_160 y3_160 hm; exact absurd hm (Nat.not_lt_zero _)
    | succ n160 ih160 =>
      intro y1_160 y3_160 hm160 b3_160
      refine at_iload_n C 2 dX6_digest_160 rfl ?_
      refine at_aload_n C 0 dX6_digest_161 rfl ?_
      refine gf_X6_44 C dX6_digest_162 ?_
      refine gf_X6_156 C dX6_digest_165 ?_
      refine at_icmp_ge C 191 dX6_digest_168 (by decide) (fun c741 => ?_) (fun c741 => ?_)
      · refine at_iconst C (0 : Int32) dX6_digest_191 (by decide) ?_
        refine at_istore_n C (lv' := [(3, .int (0 : Int32)), (0, .ref (e_q E 0)), (1, .long y1_160)]) dX6_digest_192 hn3 rfl ?_
        exact at_sub [1, 2, 0] rfl (K193 _ y1_160 (0 : Int32) (Nat.lt_succ_self _) (iv_wk (iv_c (c := 0) (x := (0 : Int32)) (by decide)) (by decide) (by decide) : iv 0 16 (0 : Int32)))
      · have f742 : iv 0 5 y3_160 := (iv_ltl b3_160 (show iv 0 6 (ac_gi σ 12) from hI.1 12) (Int32.not_le.mp c741))
        have f743 : iv 1 6 (ac_gi σ 12) := (iv_ltr b3_160 (show iv 0 6 (ac_gi σ 12) from hI.1 12) (Int32.not_le.mp c741))
        refine at_lload_n C 1 dX6_digest_171 rfl ?_
        refine at_aload_n C 0 dX6_digest_172 rfl ?_
        refine gf_X6_44 C dX6_digest_173 ?_
        refine gf_X6_189 C dX6_digest_176 ?_
        refine at_iload_n C 2 dX6_digest_179 rfl ?_
        refine at_iald C (c := 24) rfl (iv_in (n := 6) f742 (by decide) (by decide)) dX6_digest_180 ?_
        refine at_Sl C (As := [.long y1_160, .int (ac_ga σ 24 (y3_160).toNatClampNeg)]) (st := []) (ct_X6_mix σ y1_160 (ac_ga σ 24 (y3_160).toNatClampNeg)) mb_X6_mix ml_X6_229 rfl (by decide) rfl (Nat.le_of_ble_eq_true rfl) dX6_digest_181 ?_
        rintro r744 _ rfl
        refine at_lstore_n C (lv' := [(1, .long r744), (0, .ref (e_q E 0)), (3, .int y3_160)]) dX6_digest_184 hn2 rfl ?_
        refine at_iinc C (v := (y3_160 + (1 : Int32))) (lv' := [(3, .int (y3_160 + (1 : Int32))), (1, .long r744), (0, .ref (e_q E 0))]) 2 dX6_digest_185 rfl rfl hn3 rfl ?_
        refine at_goto C 160 dX6_digest_188 (by decide) ?_
        exact at_sub [2, 1, 0] rfl (ih160 r744 (y3_160 + (1 : Int32)) (mz_up hm160 (ac_ti1 f742 (iv_c (c := 1) (x := (1 : Int32)) (by decide)) (by decide) (by decide) (by decide)) (by decide) (iv_wk (iv_add f742 (iv_c (c := 1) (x := (1 : Int32)) (by decide)) (by decide) (by decide)) (by decide) (by decide) : iv 0 6 (y3_160 + (1 : Int32))).2) (iv_wk (iv_add f742 (iv_c (c := 1) (x := (1 : Int32)) (by decide)) (by decide) (by decide)) (by decide) (by decide) : iv 0 6 (y3_160 + (1 : Int32))))
  have K99 : ∀ (n99 : Nat) (y1_99 : Int64) (y3_99 : Int32), (24 - (y3_99).toInt).toNat < n99 → iv 0 24 y3_99 → AT E 99 [(0, .ref (e_q E 0)), (1, .long y1_99), (3, .int y3_99)] [] σ := by
    intro n99
    induction n99 with
    | zero => intro y1_99 y3_99 hm; exact absurd hm (Nat.not_lt_zero _)
    | succ n99 ih99 =>
      intro y1_99 y3_99 hm99 b3_99
      refine at_iload_n C 2 dX6_digest_99 rfl ?_
      refine at_aload_n C 0 dX6_digest_100 rfl ?_
      refine gf_X6_44 C dX6_digest_101 ?_
      refine gf_X6_166 C dX6_digest_104 ?_
      refine at_icmp_ge C 158 dX6_digest_107 (by decide) (fun c745 => ?_) (fun c745 => ?_)
      · refine at_iconst C (0 : Int32) dX6_digest_158 (by decide) ?_
        refine at_istore_n C (lv' := [(3, .int (0 : Int32)), (0, .ref (e_q E 0)), (1, .long y1_99)]) dX6_digest_159 hn3 rfl ?_
        exact at_sub [1, 2, 0] rfl (K160 _ y1_99 (0 : Int32) (Nat.lt_succ_self _) (iv_wk (iv_c (c := 0) (x := (0 : Int32)) (by decide)) (by decide) (by decide) : iv 0 6 (0 : Int32)))
      · have f746 : iv 0 23 y3_99 := (iv_ltl b3_99 (show iv 0 24 (ac_gi σ 13) from hI.1 13) (Int32.not_le.mp c745))
        have f747 : iv 1 24 (ac_gi σ 13) := (iv_ltr b3_99 (show iv 0 24 (ac_gi σ 13) from hI.1 13) (Int32.not_le.mp c745))
        refine at_lload_n C 1 dX6_digest_110 rfl ?_
        refine at_aload_n C 0 dX6_digest_111 rfl ?_
        refine gf_X6_44 C dX6_digest_112 ?_
        refine gf_X6_236 C dX6_digest_115 ?_
        refine at_iload_n C 2 dX6_digest_118 rfl ?_
        refine at_iald C (c := 21) rfl (iv_in (n := 24) f746 (by decide) (by decide)) dX6_digest_119 ?_
        refine at_Sl C (As := [.long y1_99, .int (ac_ga σ 21 (y3_99).toNatClampNeg)]) (st := []) (ct_X6_mix σ y1_99 (ac_ga σ 21 (y3_99).toNatClampNeg)) mb_X6_mix ml_X6_229 rfl (by decide) rfl (Nat.le_of_ble_eq_true rfl) dX6_digest_120 ?_
        rintro r748 _ rfl
        refine at_lstore_n C (lv' := [(1, .long r748), (0, .ref (e_q E 0)), (3, .int y3_99)]) dX6_digest_123 hn2 rfl ?_
        refine at_lload_n C 0 dX6_digest_124 rfl ?_
        refine at_aload_n C 1 dX6_digest_125 rfl ?_
        refine gf_X6_44 C dX6_digest_126 ?_
        refine gf_X6_239 C dX6_digest_129 ?_
        refine at_iload_n C 2 dX6_digest_132 rfl ?_
        refine at_iald C (c := 22) rfl (iv_in (n := 24) f746 (by decide) (by decide)) dX6_digest_133 ?_
        refine at_Sl C (As := [.long r748, .int (ac_ga σ 22 (y3_99).toNatClampNeg)]) (st := []) (ct_X6_mix σ r748 (ac_ga σ 22 (y3_99).toNatClampNeg)) mb_X6_mix ml_X6_229 rfl (by decide) rfl (Nat.le_of_ble_eq_true rfl) dX6_digest_134 ?_
        rintro r749 _ rfl
        refine at_lstore_n C (lv' := [(1, .long r749), (0, .ref (e_q E 0)), (3, .int y3_99)]) dX6_digest_137 hn2 rfl ?_
        refine at_lload_n C 0 dX6_digest_138 rfl ?_
        refine at_aload_n C 1 dX6_digest_139 rfl ?_
        refine gf_X6_44 C dX6_digest_140 ?_
        refine gf_X6_242 C dX6_digest_143 ?_
        refine at_iload_n C 2 dX6_digest_146 rfl ?_
        refine at_iald C (c := 23) rfl (iv_in (n := 24) f746 (by decide) (by decide)) dX6_digest_147 ?_
        refine at_Sl C (As := [.long r749, .int (ac_ga σ 23 (y3_99).toNatClampNeg)]) (st := []) (ct_X6_mix σ r749 (ac_ga σ 23 (y3_99).toNatClampNeg)) mb_X6_mix ml_X6_229 rfl (by decide) rfl (Nat.le_of_ble_eq_true rfl) dX6_digest_148 ?_
        rintro r750 _ rfl
        refine at_lstore_n C (lv' := [(1, .long r750), (0, .ref (e_q E 0)), (3, .int y3_99)]) dX6_digest_151 hn2 rfl ?_
        refine at_iinc C (v := (y3_99 + (1 : Int32))) (lv' := [(3, .int (y3_99 + (1 : Int32))), (1, .long r750), (0, .ref (e_q E 0))]) 2 dX6_digest_152 rfl rfl hn3 rfl ?_
        refine at_goto C 99 dX6_digest_155 (by decide) ?_
        exact at_sub [2, 1, 0] rfl (ih99 r750 (y3_99 + (1 : Int32)) (mz_up hm99 (ac_ti1 f746 (iv_c (c := 1) (x := (1 : Int32)) (by decide)) (by decide) (by decide) (by decide)) (by decide) (iv_wk (iv_add f746 (iv_c (c := 1) (x := (1 : Int32)) (by decide)) (by decide) (by decide)) (by decide) (by decide) : iv 0 24 (y3_99 + (1 : Int32))).2) (iv_wk (iv_add f746 (iv_c (c := 1) (x := (1 : Int32)) (by decide)) (by decide) (by decide)) (by decide) (by decide) : iv 0 24 (y3_99 + (1 : Int32))))
  have K73 : ∀ (n73 : Nat) (y1_73 : Int64) (y3_73 : Int32), (10 - (y3_73).toInt).toNat < n73 → iv 0 10 y3_73 → AT E 73 [(0, .ref (e_q E 0)), (1, .long y1_73), (3, .int y3_73)] [] σ := by
    intro n73
    induction n73 with
    | zero => intro y1_73 y3_73 hm; exact absurd hm (Nat.not_lt_zero _)
    | succ n73 ih73 =>
      intro y1_73 y3_73 hm73 b3_73
      refine at_iload_n C 2 dX6_digest_73 rfl ?_
      refine at_aload_n C 0 dX6_digest_74 rfl ?_
      refine gf_X6_12 C dX6_digest_75 ?_
      refine gf_X6_59 C dX6_digest_78 ?_
      refine at_icmp_ge C 97 dX6_digest_81 (by decide) (fun c751 => ?_) (fun c751 => ?_)
      · refine at_iconst C (0 : Int32) dX6_digest_97 (by decide) ?_
        refine at_istore_n C (lv' := [(3, .int (0 : Int32)), (0, .ref (e_q E 0)), (1, .long y1_73)]) dX6_digest_98 hn3 rfl ?_
        exact at_sub [1, 2, 0] rfl (K99 _ y1_73 (0 : Int32) (Nat.lt_succ_self _) (iv_wk (iv_c (c := 0) (x := (0 : Int32)) (by decide)) (by decide) (by decide) : iv 0 24 (0 : Int32)))
      · have f752 : iv 0 9 y3_73 := (iv_ltl b3_73 (show iv 0 10 (ac_gi σ 0) from hI.1 0) (Int32.not_le.mp c751))
        have f753 : iv 1 10 (ac_gi σ 0) := (iv_ltr b3_73 (show iv 0 10 (ac_gi σ 0) from hI.1 0) (Int32.not_le.mp c751))
        refine at_aload_n C 0 dX6_digest_84 rfl ?_
        refine at_lload_n C 1 dX6_digest_85 rfl ?_
        refine at_iload_n C 2 dX6_digest_86 rfl ?_
        refine at_Vl C (As := [.long y1_73, .int y3_73]) (st := []) (b := 0) (ci := 6) (ct_X6_mixMast σ y1_73 y3_73 hI (show iv 0 9 y3_73 from f752)) mb_X6_mixMast ml_X6_233 rfl rfl rfl (by decide) rfl (Nat.le_of_ble_eq_true rfl) dX6_digest_87 ?_
        rintro r754 _ rfl
        refine at_lstore_n C (lv' := [(1, .long r754), (0, .ref (e_q E 0)), (3, .int y3_73)]) dX6_digest_90 hn2 rfl ?_
        refine at_iinc C (v := (y3_73 + (1 : Int32))) (lv' := [(3, .int (y3_73 + (1 : Int32))), (1, .long r754), (0, .ref (e_q E 0))]) 2 dX6_digest_91 rfl rfl hn3 rfl ?_
        refine at_goto C 73 dX6_digest_94 (by decide) ?_
        exact at_sub [2, 1, 0] rfl (ih73 r754 (y3_73 + (1 : Int32)) (mz_up hm73 (ac_ti1 f752 (iv_c (c := 1) (x := (1 : Int32)) (by decide)) (by decide) (by decide) (by decide)) (by decide) (iv_wk (iv_add f752 (iv_c (c := 1) (x := (1 : Int32)) (by decide)) (by decide) (by decide)) (by decide) (by decide) : iv 0 10 (y3_73 + (1 : Int32))).2) (iv_wk (iv_add f752 (iv_c (c := 1) (x := (1 : Int32)) (by decide)) (by decide) (by decide)) (by decide) (by decide) : iv 0 10 (y3_73 + (1 : Int32))))
  have K6 : ∀ (n6 : Nat) (y1_6 : Int64) (y3_6 : Int32), (4 - (y3_6).toInt).toNat < n6 → iv 0 4 y3_6 → AT E 6 [(0, .ref (e_q E 0)), (1, .long y1_6), (3, .int y3_6)] [] σ := by
    intro n6
    induction n6 with
    | zero => intro y1_6 y3_6 hm; exact absurd hm (Nat.not_lt_zero _)
    | succ n6 ih6 =>
      intro y1_6 y3_6 hm6 b3_6
      refine at_iload_n C 2 dX6_digest_6 rfl ?_
      refine at_iconst C (3 : Int32) dX6_digest_7 (by decide) ?_
      refine at_icmp_gt C 27 dX6_digest_8 (by decide) (fun c755 => ?_) (fun c755 => ?_)
      · have f756 : iv 4 4 y3_6 := (iv_ltr (iv_c (c := 3) (x := (3 : Int32)) (by decide)) b3_6 c755)
        refine at_lload_n C 1 dX6_digest_27 rfl ?_
        refine at_aload_n C 0 dX6_digest_28 rfl ?_
        refine gf_X6_12 C dX6_digest_29 ?_
        refine gf_X6_70 C dX6_digest_32 ?_
        refine at_Sl C (As := [.long y1_6, .int (ac_gi σ 1)]) (st := []) (ct_X6_mix σ y1_6 (ac_gi σ 1)) mb_X6_mix ml_X6_229 rfl (by decide) rfl (Nat.le_of_ble_eq_true rfl) dX6_digest_35 ?_
        rintro r757 _ rfl
        refine at_aload_n C 0 dX6_digest_38 rfl ?_
        refine gf_X6_12 C dX6_digest_39 ?_
        refine gf_X6_92 C dX6_digest_42 ?_
        refine at_Sl C (As := [.long r757, .int (ac_gi σ 2)]) (st := []) (ct_X6_mix σ r757 (ac_gi σ 2)) mb_X6_mix ml_X6_229 rfl (by decide) rfl (Nat.le_of_ble_eq_true rfl) dX6_digest_45 ?_
        rintro r758 _ rfl
        refine at_lstore_n C (lv' := [(1, .long r758), (0, .ref (e_q E 0)), (3, .int y3_6)]) dX6_digest_48 hn2 rfl ?_
        refine at_lload_n C 0 dX6_digest_49 rfl ?_
        refine at_aload_n C 1 dX6_digest_50 rfl ?_
        refine gf_X6_37 C dX6_digest_51 ?_
        refine gf_X6_127 C dX6_digest_54 ?_
        refine at_Sl C (As := [.long r758, .int (ac_gi σ 5)]) (st := []) (ct_X6_mix σ r758 (ac_gi σ 5)) mb_X6_mix ml_X6_229 rfl (by decide) rfl (Nat.le_of_ble_eq_true rfl) dX6_digest_57 ?_
        rintro r759 _ rfl
        refine at_aload_n C 1 dX6_digest_60 rfl ?_
        refine gf_X6_37 C dX6_digest_61 ?_
        refine gf_X6_130 C dX6_digest_64 ?_
        refine at_Sl C (As := [.long r759, .int (ac_gi σ 6)]) (st := []) (ct_X6_mix σ r759 (ac_gi σ 6)) mb_X6_mix ml_X6_229 rfl (by decide) rfl (Nat.le_of_ble_eq_true rfl) dX6_digest_67 ?_
        rintro r760 _ rfl
        refine at_lstore_n C (lv' := [(1, .long r760), (0, .ref (e_q E 0)), (3, .int y3_6)]) dX6_digest_70 hn2 rfl ?_
        refine at_iconst C (0 : Int32) dX6_digest_71 (by decide) ?_
        refine at_istore_n C (lv' := [(3, .int (0 : Int32)), (1, .long r760), (0, .ref (e_q E 0))]) dX6_digest_72 hn3 rfl ?_
        exact at_sub [2, 1, 0] rfl (K73 _ r760 (0 : Int32) (Nat.lt_succ_self _) (iv_wk (iv_c (c := 0) (x := (0 : Int32)) (by decide)) (by decide) (by decide) : iv 0 10 (0 : Int32)))
      · have f761 : iv 0 3 y3_6 := (iv_lel b3_6 (iv_c (c := 3) (x := (3 : Int32)) (by decide)) (Int32.not_lt.mp c755))
        refine at_lload_n C 1 dX6_digest_11 rfl ?_
        refine at_aload_n C 0 dX6_digest_12 rfl ?_
        refine at_iload_n C 2 dX6_digest_13 rfl ?_
        refine at_Vi C (As := [.int y3_6]) (st := [.long y1_6]) (b := 0) (ci := 6) (ct_X6_count σ y3_6 hI) mb_X6_count ml_X6_226 rfl rfl rfl (by decide) rfl (Nat.le_of_ble_eq_true rfl) dX6_digest_14 ?_
        rintro r762 _ ⟨rfl, f763, mo764⟩
        refine at_Sl C (As := [.long y1_6, .int r762]) (st := []) (ct_X6_mix σ y1_6 r762) mb_X6_mix ml_X6_229 rfl (by decide) rfl (Nat.le_of_ble_eq_true rfl) dX6_digest_17 ?_
        rintro r765 _ rfl
        refine at_lstore_n C (lv' := [(1, .long r765), (0, .ref (e_q E 0)), (3, .int y3_6)]) dX6_digest_20 hn2 rfl ?_
        refine at_iinc C (v := (y3_6 + (1 : Int32))) (lv' := [(3, .int (y3_6 + (1 : Int32))), (1, .long r765), (0, .ref (e_q E 0))]) 2 dX6_digest_21 rfl rfl hn3 rfl ?_
        refine at_goto C 6 dX6_digest_24 (by decide) ?_
        exact at_sub [2, 1, 0] rfl (ih6 r765 (y3_6 + (1 : Int32)) (mz_up hm6 (ac_ti1 f761 (iv_c (c := 1) (x := (1 : Int32)) (by decide)) (by decide) (by decide) (by decide)) (by decide) (iv_wk (iv_add f761 (iv_c (c := 1) (x := (1 : Int32)) (by decide)) (by decide) (by decide)) (by decide) (by decide) : iv 0 4 (y3_6 + (1 : Int32))).2) (iv_wk (iv_add f761 (iv_c (c := 1) (x := (1 : Int32)) (by decide)) (by decide) (by decide)) (by decide) (by decide) : iv 0 4 (y3_6 + (1 : Int32))))
  refine at_ldc2 C (401 : Int64) dX6_digest_0 kc_X6_224 ?_
  refine at_lstore_n C (lv' := [(1, .long (401 : Int64)), (0, .ref (e_q E 0))]) dX6_digest_3 hn2 rfl ?_
  refine at_iconst C (0 : Int32) dX6_digest_4 (by decide) ?_
  refine at_istore_n C (lv' := [(3, .int (0 : Int32)), (1, .long (401 : Int64)), (0, .ref (e_q E 0))]) dX6_digest_5 hn3 rfl ?_
  exact at_sub [2, 1, 0] rfl (K6 _ (401 : Int64) (0 : Int32) (Nat.lt_succ_self _) (iv_wk (iv_c (c := 0) (x := (0 : Int32)) (by decide)) (by decide) (by decide) : iv 0 4 (0 : Int32)))
