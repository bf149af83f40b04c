set_option maxHeartbeats 4000000 in
set_option maxRecDepth 100000 in
theorem ct_X7_fits (σ : SS) (x1 : Int32) (hI : Inv σ) : ConI yX7_fits cX7_fits 2 (some .int) 3 (some 30) [.int x1] σ (fun r σ' => Gd σ σ' ∧ iv (-2147483648) 2147483647 r) := by
  refine conI_of (by decide) (fun q => Nat.le_of_ble_eq_true rfl) (fun E C en hR => ?_)
  have hG0 : Gd σ σ := Gd.rf hI
  refine at_aload_n C 0 dX7_fits_0 rfl ?_
  refine at_iload_n C 1 dX7_fits_1 rfl ?_
  refine at_Vi C (As := [.int x1]) (st := []) (b := 30) (ci := 7) (ct_X7_noSet σ x1 hI) mb_X7_noSet ml_X7_131 rfl rfl rfl (by decide) rfl (Nat.le_of_ble_eq_true rfl) dX7_fits_2 ?_
  rintro _ _ ⟨rfl, ⟨rfl, c85⟩ | ⟨rfl, c85⟩⟩
  · refine at_if_eq C 13 dX7_fits_5 (by decide) (fun c87 => absurd c87 (iv_xeq (iv_c (c := 1) (x := (1 : Int32)) (by decide)) (iv_c (c := 0) (x := (0 : Int32)) (by decide)) (by decide))) (fun c87 => ?_)
    refine at_bipush C (-2 : Int32) dX7_fits_8 (by decide) ?_
    refine at_goto C 18 dX7_fits_10 (by decide) ?_
    exact hR _ _ _ _ dX7_fits_18 ⟨hG0, (iv_wk (iv_c (c := (-2)) (x := (-2 : Int32)) (by decide)) (by decide) (by decide) : iv (-2147483648) 2147483647 (-2 : Int32))⟩
  · have f88 : iv 0 1023 x1 := (iv_of3 (Classical.not_not.mp c85) (iv_shl1 (a := 0) (b := 10) (show iv 0 10 (ac_gi σ 15) from hI.1 15) (by decide)))
    refine at_if_eq C 13 dX7_fits_5 (by decide) (fun c89 => ?_) (fun c89 => absurd (iv_xne (iv_c (c := 0) (x := (0 : Int32)) (by decide)) (iv_c (c := 0) (x := (0 : Int32)) (by decide))) c89)
    refine at_aload_n C 0 dX7_fits_13 rfl ?_
    refine at_iload_n C 1 dX7_fits_14 rfl ?_
    refine at_Vi C (As := [.int x1]) (st := []) (b := 30) (ci := 7) (ct_X7_search σ x1 hI) mb_X7_search ml_X7_134 rfl rfl rfl (by decide) rfl (Nat.le_of_ble_eq_true rfl) dX7_fits_15 ?_
    rintro r90 u94 ⟨hg95, f91, fr92, fr93⟩
    have hG96 := hG0.tr hg95
    exact hR _ _ _ _ dX7_fits_18 ⟨hG96, (iv_wk f91 (by decide) (by decide) : iv (-2147483648) 2147483647 r90)⟩
set_option maxHeartbeats 4000000 in
set_option maxRecDepth 100000 in
theorem ct_X7_tries (σ : SS) (x1 : Int32) (hI : Inv σ) : ConI yX7_tries cX7_tries 3 (some .int) 3 (some 30) [.int x1] σ (fun r σ' => Gd σ σ' ∧ iv (-2147483648) 2147483647 r) := by
  refine conI_of (by decide) (fun q => Nat.le_of_ble_eq_true rfl) (fun E C en hR => ?_)
  have hn2 : 2 < e_n E := by rw [en]; decide
  have hG0 : Gd σ σ := Gd.rf hI
  refine at_aload_n C 0 dX7_tries_0 rfl ?_
  refine at_iload_n C 1 dX7_tries_1 rfl ?_
  refine at_Vi C (As := [.int x1]) (st := []) (b := 30) (ci := 7) (ct_X7_noSet σ x1 hI) mb_X7_noSet ml_X7_131 rfl rfl rfl (by decide) rfl (Nat.le_of_ble_eq_true rfl) dX7_tries_2 ?_
  rintro _ _ ⟨rfl, ⟨rfl, c85⟩ | ⟨rfl, c85⟩⟩
  · refine at_if_eq C 11 dX7_tries_5 (by decide) (fun c87 => absurd c87 (iv_xeq (iv_c (c := 1) (x := (1 : Int32)) (by decide)) (iv_c (c := 0) (x := (0 : Int32)) (by decide)) (by decide))) (fun c87 => ?_)
    refine at_bipush C (-2 : Int32) dX7_tries_8 (by decide) ?_
    exact hR _ _ _ _ dX7_tries_10 ⟨hG0, (iv_wk (iv_c (c := (-2)) (x := (-2 : Int32)) (by decide)) (by decide) (by decide) : iv (-2147483648) 2147483647 (-2 : Int32))⟩
  · have f88 : iv 0 1023 x1 := (iv_of3 (Classical.not_not.mp c85) (iv_shl1 (a := 0) (b := 10) (show iv 0 10 (ac_gi σ 15) from hI.1 15) (by decide)))
    refine at_if_eq C 11 dX7_tries_5 (by decide) (fun c89 => ?_) (fun c89 => absurd (iv_xne (iv_c (c := 0) (x := (0 : Int32)) (by decide)) (iv_c (c := 0) (x := (0 : Int32)) (by decide))) c89)
    refine at_aload_n C 0 dX7_tries_11 rfl ?_
    refine at_iload_n C 1 dX7_tries_12 rfl ?_
    refine at_Vi C (As := [.int x1]) (st := []) (b := 30) (ci := 7) (ct_X7_search σ x1 hI) mb_X7_search ml_X7_134 rfl rfl rfl (by decide) rfl (Nat.le_of_ble_eq_true rfl) dX7_tries_13 ?_
    rintro r90 u94 ⟨hg95, f91, fr92, fr93⟩
    have hG96 := hG0.tr hg95
    refine at_istore_n C (lv' := [(2, .int r90), (0, .ref (e_q E 30)), (1, .int x1)]) dX7_tries_16 hn2 rfl ?_
    refine at_aload_n C 1 dX7_tries_17 rfl ?_
    refine gf_X7_117 C dX7_tries_18 ?_
    exact hR _ _ _ _ dX7_tries_21 ⟨hG96, (show iv (-2147483648) 2147483647 (ac_gi u94 19) from (iv_any (ac_gi u94 19)))⟩
set_option maxHeartbeats 4000000 in
set_option maxRecDepth 100000 in
theorem ct_X7_packing (σ : SS) (x1 : Int32) (x2 : Int32) (hI : Inv σ) : ConI yX7_packing cX7_packing 5 (some .int) 3 (some 30) [.int x1, .int x2] σ (fun r σ' => Gd σ σ' ∧ iv (-2147483648) 2147483647 r) := by
  refine conI_of (by decide) (fun q => Nat.le_of_ble_eq_true rfl) (fun E C en hR => ?_)
  have hn3 : 3 < e_n E := by rw [en]; decide
  have hn4 : 4 < e_n E := by rw [en]; decide
  have hG0 : Gd σ σ := Gd.rf hI
  have K42 : ∀ (n42 : Nat) (y3_42 : Int32) (y4_42 : Int32) (s42 : SS), (10 - (y4_42).toInt).toNat < n42 → iv 0 9 x2 → iv (-2147483648) 2147483647 y3_42 → iv 0 10 y4_42 → Gd σ s42 → AT E 42 [(0, .ref (e_q E 30)), (2, .int x2), (3, .int y3_42), (4, .int y4_42)] [] s42 := by
    intro n42
    induction n42 with
    | zero => intro y3_42 y4_42 s42 hm; exact absurd hm (Nat.not_lt_zero _)
    | succ n42 ih42 =>
      intro y3_42 y4_42 s42 hm42 b2_42 b3_42 b4_42 hG_42
      refine at_iload C 3 dX7_packing_42 rfl ?_
      refine at_aload_n C 0 dX7_packing_44 rfl ?_
      refine gf_X7_106 C dX7_packing_45 ?_
      refine at_icmp_ge C 80 dX7_packing_48 (by decide) (fun c376 => ?_) (fun c376 => ?_)
      · refine at_iload_n C 2 dX7_packing_80 rfl ?_
        exact hR _ _ _ _ dX7_packing_81 ⟨hG_42, (show iv (-2147483648) 2147483647 y3_42 from b3_42)⟩
      · have f377 : iv 0 9 y4_42 := (iv_ltl b4_42 (show iv 0 10 (ac_gi s42 18) from hG_42.1.1 18) (Int32.not_le.mp c376))
        have f378 : iv 1 10 (ac_gi s42 18) := (iv_ltr b4_42 (show iv 0 10 (ac_gi s42 18) from hG_42.1.1 18) (Int32.not_le.mp c376))
        refine at_aload_n C 0 dX7_packing_51 rfl ?_
        refine gf_X7_23 C dX7_packing_52 ?_
        refine at_iload C 3 dX7_packing_55 rfl ?_
        refine at_iald C (c := 33) rfl (iv_in (n := 10) f377 (by decide) (by decide)) dX7_packing_57 ?_
        refine at_iload_n C 1 dX7_packing_58 rfl ?_
        refine at_icmp_ne C 72 dX7_packing_59 (by decide) (fun c379 => ?_) (fun c379 => ?_)
        · refine at_iload_n C 2 dX7_packing_72 rfl ?_
          refine at_istore_n C (lv' := [(3, .int y3_42), (0, .ref (e_q E 30)), (2, .int x2), (4, .int y4_42)]) dX7_packing_73 hn3 rfl ?_
          refine at_iinc C (v := (y4_42 + (1 : Int32))) (lv' := [(4, .int (y4_42 + (1 : Int32))), (3, .int y3_42), (0, .ref (e_q E 30)), (2, .int x2)]) 3 dX7_packing_74 rfl rfl hn4 rfl ?_
          refine at_goto C 42 dX7_packing_77 (by decide) ?_
          exact at_sub [2, 3, 1, 0] rfl (ih42 y3_42 (y4_42 + (1 : Int32)) s42 (mz_up hm42 (ac_ti1 f377 (iv_c (c := 1) (x := (1 : Int32)) (by decide)) (by decide) (by decide) (by decide)) (by decide) (iv_wk (iv_add f377 (iv_c (c := 1) (x := (1 : Int32)) (by decide)) (by decide) (by decide)) (by decide) (by decide) : iv 0 10 (y4_42 + (1 : Int32))).2) (show iv 0 9 x2 from b2_42) (show iv (-2147483648) 2147483647 y3_42 from b3_42) (iv_wk (iv_add f377 (iv_c (c := 1) (x := (1 : Int32)) (by decide)) (by decide) (by decide)) (by decide) (by decide) : iv 0 10 (y4_42 + (1 : Int32))) hG_42)
        · refine at_aload_n C 0 dX7_packing_62 rfl ?_
          refine gf_X7_26 C dX7_packing_63 ?_
          refine at_iload C 3 dX7_packing_66 rfl ?_
          refine at_iald C (c := 34) rfl (iv_in (n := 10) f377 (by decide) (by decide)) dX7_packing_68 ?_
          refine at_goto C 73 dX7_packing_69 (by decide) ?_
          refine at_istore_n C (lv' := [(3, .int (ac_ga s42 34 (y4_42).toNatClampNeg)), (0, .ref (e_q E 30)), (2, .int x2), (4, .int y4_42)]) dX7_packing_73 hn3 rfl ?_
          refine at_iinc C (v := (y4_42 + (1 : Int32))) (lv' := [(4, .int (y4_42 + (1 : Int32))), (3, .int (ac_ga s42 34 (y4_42).toNatClampNeg)), (0, .ref (e_q E 30)), (2, .int x2)]) 3 dX7_packing_74 rfl rfl hn4 rfl ?_
          refine at_goto C 42 dX7_packing_77 (by decide) ?_
          exact at_sub [2, 3, 1, 0] rfl (ih42 (ac_ga s42 34 (y4_42).toNatClampNeg) (y4_42 + (1 : Int32)) s42 (mz_up hm42 (ac_ti1 f377 (iv_c (c := 1) (x := (1 : Int32)) (by decide)) (by decide) (by decide) (by decide)) (by decide) (iv_wk (iv_add f377 (iv_c (c := 1) (x := (1 : Int32)) (by decide)) (by decide) (by decide)) (by decide) (by decide) : iv 0 10 (y4_42 + (1 : Int32))).2) (show iv 0 9 x2 from b2_42) (show iv (-2147483648) 2147483647 (ac_ga s42 34 (y4_42).toNatClampNeg) from (iv_any (ac_ga s42 34 (y4_42).toNatClampNeg))) (iv_wk (iv_add f377 (iv_c (c := 1) (x := (1 : Int32)) (by decide)) (by decide) (by decide)) (by decide) (by decide) : iv 0 10 (y4_42 + (1 : Int32))) hG_42)
  refine at_aload_n C 0 dX7_packing_0 rfl ?_
  refine at_iload_n C 1 dX7_packing_1 rfl ?_
  refine at_Vi C (As := [.int x1]) (st := []) (b := 30) (ci := 7) (ct_X7_noSet σ x1 hI) mb_X7_noSet ml_X7_131 rfl rfl rfl (by decide) rfl (Nat.le_of_ble_eq_true rfl) dX7_packing_2 ?_
  rintro _ _ ⟨rfl, ⟨rfl, c380⟩ | ⟨rfl, c380⟩⟩
  · refine at_if_ne C 24 dX7_packing_5 (by decide) (fun c382 => ?_) (fun c382 => absurd c382 (iv_xeq (iv_c (c := 1) (x := (1 : Int32)) (by decide)) (iv_c (c := 0) (x := (0 : Int32)) (by decide)) (by decide)))
    refine at_bipush C (-2 : Int32) dX7_packing_24 (by decide) ?_
    exact hR _ _ _ _ dX7_packing_26 ⟨hG0, (iv_wk (iv_c (c := (-2)) (x := (-2 : Int32)) (by decide)) (by decide) (by decide) : iv (-2147483648) 2147483647 (-2 : Int32))⟩
  · have f383 : iv 0 1023 x1 := (iv_of3 (Classical.not_not.mp c380) (iv_shl1 (a := 0) (b := 10) (show iv 0 10 (ac_gi σ 15) from hI.1 15) (by decide)))
    refine at_if_ne C 24 dX7_packing_5 (by decide) (fun c384 => absurd (iv_xne (iv_c (c := 0) (x := (0 : Int32)) (by decide)) (iv_c (c := 0) (x := (0 : Int32)) (by decide))) c384) (fun c384 => ?_)
    refine at_aload_n C 0 dX7_packing_8 rfl ?_
    refine at_iload_n C 2 dX7_packing_9 rfl ?_
    refine at_Vi C (As := [.int x2]) (st := []) (b := 30) (ci := 7) (ct_X7_noMast σ x2 hI) mb_X7_noMast ml_X7_96 rfl rfl rfl (by decide) rfl (Nat.le_of_ble_eq_true rfl) dX7_packing_10 ?_
    rintro _ _ ⟨rfl, ⟨rfl, c385⟩ | ⟨rfl, c385⟩⟩
    · refine at_if_ne C 24 dX7_packing_13 (by decide) (fun c387 => ?_) (fun c387 => absurd c387 (iv_xeq (iv_c (c := 1) (x := (1 : Int32)) (by decide)) (iv_c (c := 0) (x := (0 : Int32)) (by decide)) (by decide)))
      refine at_bipush C (-2 : Int32) dX7_packing_24 (by decide) ?_
      exact hR _ _ _ _ dX7_packing_26 ⟨hG0, (iv_wk (iv_c (c := (-2)) (x := (-2 : Int32)) (by decide)) (by decide) (by decide) : iv (-2147483648) 2147483647 (-2 : Int32))⟩
    · have f388 : iv 0 9 x2 := (iv_of3 (Classical.not_not.mp c385) (show iv 0 10 (ac_gi σ 15) from hI.1 15))
      refine at_if_ne C 24 dX7_packing_13 (by decide) (fun c389 => absurd (iv_xne (iv_c (c := 0) (x := (0 : Int32)) (by decide)) (iv_c (c := 0) (x := (0 : Int32)) (by decide))) c389) (fun c389 => ?_)
      refine at_iload_n C 1 dX7_packing_16 rfl ?_
      refine at_iload_n C 2 dX7_packing_17 rfl ?_
      refine at_ishr C dX7_packing_18 ?_
      refine at_iconst C (1 : Int32) dX7_packing_19 (by decide) ?_
      refine at_iand C dX7_packing_20 ?_
      refine at_if_ne C 27 dX7_packing_21 (by decide) (fun c390 => ?_) (fun c390 => ?_)
      · have f391 : iv 1 1 ((x1 >>> (x2 &&& 31)) &&& (1 : Int32)) := (iv_nel (iv_andr (iv_wk (c := 0) (iv_c (c := 1) (x := (1 : Int32)) (by decide)) (by decide) (Int.le_refl _))) (by decide) c390)
        refine at_aload_n C 0 dX7_packing_27 rfl ?_
        refine at_iload_n C 1 dX7_packing_28 rfl ?_
        refine at_Vi C (As := [.int x1]) (st := []) (b := 30) (ci := 7) (ct_X7_packs σ x1 hI) mb_X7_packs ml_X7_138 rfl rfl rfl (by decide) rfl (Nat.le_of_ble_eq_true rfl) dX7_packing_29 ?_
        rintro _ u394 ⟨hg393, rfl | rfl⟩
        · have hG396 := hG0.tr hg393
          refine at_if_ne C 37 dX7_packing_32 (by decide) (fun c397 => absurd (iv_xne (iv_c (c := 0) (x := (0 : Int32)) (by decide)) (iv_c (c := 0) (x := (0 : Int32)) (by decide))) c397) (fun c397 => ?_)
          refine at_iconst C (-1 : Int32) dX7_packing_35 (by decide) ?_
          exact hR _ _ _ _ dX7_packing_36 ⟨hG396, (iv_wk (iv_c (c := (-1)) (x := (-1 : Int32)) (by decide)) (by decide) (by decide) : iv (-2147483648) 2147483647 (-1 : Int32))⟩
        · have hG398 := hG0.tr hg393
          refine at_if_ne C 37 dX7_packing_32 (by decide) (fun c399 => ?_) (fun c399 => absurd c399 (iv_xeq (iv_c (c := 1) (x := (1 : Int32)) (by decide)) (iv_c (c := 0) (x := (0 : Int32)) (by decide)) (by decide)))
          refine at_iconst C (-1 : Int32) dX7_packing_37 (by decide) ?_
          refine at_istore_n C (lv' := [(3, .int (-1 : Int32)), (0, .ref (e_q E 30)), (1, .int x1), (2, .int x2)]) dX7_packing_38 hn3 rfl ?_
          refine at_iconst C (0 : Int32) dX7_packing_39 (by decide) ?_
          refine at_istore C (lv' := [(4, .int (0 : Int32)), (3, .int (-1 : Int32)), (0, .ref (e_q E 30)), (1, .int x1), (2, .int x2)]) dX7_packing_40 hn4 rfl ?_
          exact at_sub [2, 4, 1, 0] rfl (K42 _ (-1 : Int32) (0 : Int32) u394 (Nat.lt_succ_self _) (show iv 0 9 x2 from f388) (iv_wk (iv_c (c := (-1)) (x := (-1 : Int32)) (by decide)) (by decide) (by decide) : iv (-2147483648) 2147483647 (-1 : Int32)) (iv_wk (iv_c (c := 0) (x := (0 : Int32)) (by decide)) (by decide) (by decide) : iv 0 10 (0 : Int32)) hG398)
      · have f400 : iv 0 0 ((x1 >>> (x2 &&& 31)) &&& (1 : Int32)) := (iv_eql (iv_c (c := 0) (x := (0 : Int32)) (by decide)) c390)
        refine at_bipush C (-2 : Int32) dX7_packing_24 (by decide) ?_
        exact hR _ _ _ _ dX7_packing_26 ⟨hG0, (iv_wk (iv_c (c := (-2)) (x := (-2 : Int32)) (by decide)) (by decide) (by decide) : iv (-2147483648) 2147483647 (-2 : Int32))⟩
set_option maxHeartbeats 4000000 in
set_option maxRecDepth 100000 in
theorem ct_X7_findGood (σ : SS) (x1 : Int32) (hI : Inv σ) (g1 : iv 0 1023 x1) : ConV yX7_findGood cX7_findGood 5 none 3 (some 30) [.int x1] σ (fun σ' => Gd σ σ') := by
  refine conV_of (by decide) (fun q => Nat.le_of_ble_eq_true rfl) (fun E C en hR => ?_)
  have hn2 : 2 < e_n E := by rw [en]; decide
  have hn3 : 3 < e_n E := by rw [en]; decide
  have hn4 : 4 < e_n E := by rw [en]; decide
  have hG0 : Gd σ σ := Gd.rf hI
  have K2 : ∀ (n2 : Nat) (y2_2 : Int32) (s2 : SS), (1024 - (y2_2).toInt).toNat < n2 → iv 0 1024 y2_2 → Gd σ s2 → AT E 2 [(0, .ref (e_q E 30)), (1, .int x1), (2, .int y2_2)] [] s2 := by
    intro n2
    induction n2 with
    | zero => intro y2_2 s2 hm; exact absurd hm (Nat.not_lt_zero _)
    | succ n2 ih2 =>
      intro y2_2 s2 hm2 b2_2 hG_2
      have K70 : ∀ (y3_70 : Int32), iv 0 1023 y2_2 → iv 0 1 y3_70 → AT E 70 [(0, .ref (e_q E 30)), (1, .int x1), (2, .int y2_2), (3, .int y3_70)] [] s2 := by
        intro y3_70 b2_70 b3_70
        refine at_aload_n C 0 dX7_findGood_70 rfl ?_
        refine gf_X7_29 C dX7_findGood_71 ?_
        refine at_iload_n C 2 dX7_findGood_74 rfl ?_
        refine at_iload_n C 3 dX7_findGood_75 rfl ?_
        refine at_if_eq C 91 dX7_findGood_76 (by decide) (fun c1037 => ?_) (fun c1037 => ?_)
        · have f1038 : iv 0 0 y3_70 := (iv_eql (iv_c (c := 0) (x := (0 : Int32)) (by decide)) c1037)
          refine at_iconst C (0 : Int32) dX7_findGood_91 (by decide) ?_
          refine at_zast C (c := 35) rfl (fun f => ac_ast_35 _ _ _ _ f) (iv_in (n := 1024) b2_70 (by decide) (by decide)) dX7_findGood_92 ?_
          have hG1039 := Gd.sa (c := 35) (i := (y2_2).toNatClampNeg) hG_2 rfl (iv_any (vp_nar .boolean (0 : Int32)))
          refine at_iinc C (v := (y2_2 + (1 : Int32))) (lv' := [(2, .int (y2_2 + (1 : Int32))), (0, .ref (e_q E 30)), (1, .int x1), (3, .int y3_70)]) 2 dX7_findGood_93 rfl rfl hn2 rfl ?_
          refine at_goto C 2 dX7_findGood_96 (by decide) ?_
          exact at_sub [1, 2, 0] rfl (ih2 (y2_2 + (1 : Int32)) (ac_sa s2 35 (upd (ac_ga s2 35) (y2_2).toNatClampNeg (vp_nar .boolean (0 : Int32)))) (mz_up hm2 (ac_ti1 b2_70 (iv_c (c := 1) (x := (1 : Int32)) (by decide)) (by decide) (by decide) (by decide)) (by decide) (iv_wk (iv_add b2_70 (iv_c (c := 1) (x := (1 : Int32)) (by decide)) (by decide) (by decide)) (by decide) (by decide) : iv 0 1024 (y2_2 + (1 : Int32))).2) (iv_wk (iv_add b2_70 (iv_c (c := 1) (x := (1 : Int32)) (by decide)) (by decide) (by decide)) (by decide) (by decide) : iv 0 1024 (y2_2 + (1 : Int32))) hG1039)
        · have f1040 : iv 1 1 y3_70 := (iv_nel b3_70 (by decide) c1037)
          refine at_aload_n C 0 dX7_findGood_79 rfl ?_
          refine at_iload_n C 2 dX7_findGood_80 rfl ?_
          refine at_Vi C (As := [.int y2_2]) (st := [.int y2_2, .ref (e_q E 35)]) (b := 30) (ci := 7) (ct_X7_packs s2 y2_2 hG_2.1) mb_X7_packs ml_X7_138 rfl rfl rfl (by decide) rfl (Nat.le_of_ble_eq_true rfl) dX7_findGood_81 ?_
          rintro _ u1043 ⟨hg1042, rfl | rfl⟩
          · have hG1045 := hG_2.tr hg1042
            refine at_if_eq C 91 dX7_findGood_84 (by decide) (fun c1046 => ?_) (fun c1046 => absurd (iv_xne (iv_c (c := 0) (x := (0 : Int32)) (by decide)) (iv_c (c := 0) (x := (0 : Int32)) (by decide))) c1046)
            refine at_iconst C (0 : Int32) dX7_findGood_91 (by decide) ?_
            refine at_zast C (c := 35) rfl (fun f => ac_ast_35 _ _ _ _ f) (iv_in (n := 1024) b2_70 (by decide) (by decide)) dX7_findGood_92 ?_
            have hG1047 := Gd.sa (c := 35) (i := (y2_2).toNatClampNeg) hG1045 rfl (iv_any (vp_nar .boolean (0 : Int32)))
            refine at_iinc C (v := (y2_2 + (1 : Int32))) (lv' := [(2, .int (y2_2 + (1 : Int32))), (0, .ref (e_q E 30)), (1, .int x1), (3, .int y3_70)]) 2 dX7_findGood_93 rfl rfl hn2 rfl ?_
            refine at_goto C 2 dX7_findGood_96 (by decide) ?_
            exact at_sub [1, 2, 0] rfl (ih2 (y2_2 + (1 : Int32)) (ac_sa u1043 35 (upd (ac_ga u1043 35) (y2_2).toNatClampNeg (vp_nar .boolean (0 : Int32)))) (mz_up hm2 (ac_ti1 b2_70 (iv_c (c := 1) (x := (1 : Int32)) (by decide)) (by decide) (by decide) (by decide)) (by decide) (iv_wk (iv_add b2_70 (iv_c (c := 1) (x := (1 : Int32)) (by decide)) (by decide) (by decide)) (by decide) (by decide) : iv 0 1024 (y2_2 + (1 : Int32))).2) (iv_wk (iv_add b2_70 (iv_c (c := 1) (x := (1 : Int32)) (by decide)) (by decide) (by decide)) (by decide) (by decide) : iv 0 1024 (y2_2 + (1 : Int32))) hG1047)
          · have hG1048 := hG_2.tr hg1042
            refine at_if_eq C 91 dX7_findGood_84 (by decide) (fun c1049 => absurd c1049 (iv_xeq (iv_c (c := 1) (x := (1 : Int32)) (by decide)) (iv_c (c := 0) (x := (0 : Int32)) (by decide)) (by decide))) (fun c1049 => ?_)
            refine at_iconst C (1 : Int32) dX7_findGood_87 (by decide) ?_
            refine at_goto C 92 dX7_findGood_88 (by decide) ?_
            refine at_zast C (c := 35) rfl (fun f => ac_ast_35 _ _ _ _ f) (iv_in (n := 1024) b2_70 (by decide) (by decide)) dX7_findGood_92 ?_
            have hG1050 := Gd.sa (c := 35) (i := (y2_2).toNatClampNeg) hG1048 rfl (iv_any (vp_nar .boolean (1 : Int32)))
            refine at_iinc C (v := (y2_2 + (1 : Int32))) (lv' := [(2, .int (y2_2 + (1 : Int32))), (0, .ref (e_q E 30)), (1, .int x1), (3, .int y3_70)]) 2 dX7_findGood_93 rfl rfl hn2 rfl ?_
            refine at_goto C 2 dX7_findGood_96 (by decide) ?_
            exact at_sub [1, 2, 0] rfl (ih2 (y2_2 + (1 : Int32)) (ac_sa u1043 35 (upd (ac_ga u1043 35) (y2_2).toNatClampNeg (vp_nar .boolean (1 : Int32)))) (mz_up hm2 (ac_ti1 b2_70 (iv_c (c := 1) (x := (1 : Int32)) (by decide)) (by decide) (by decide) (by decide)) (by decide) (iv_wk (iv_add b2_70 (iv_c (c := 1) (x := (1 : Int32)) (by decide)) (by decide) (by decide)) (by decide) (by decide) : iv 0 1024 (y2_2 + (1 : Int32))).2) (iv_wk (iv_add b2_70 (iv_c (c := 1) (x := (1 : Int32)) (by decide)) (by decide) (by decide)) (by decide) (by decide) : iv 0 1024 (y2_2 + (1 : Int32))) hG1050)
      have K20 : ∀ (n20 : Nat) (y3_20 : Int32) (y4_20 : Int32), (10 - (y4_20).toInt).toNat < n20 → iv 0 1023 y2_2 → iv 0 1 y3_20 → iv 0 10 y4_20 → AT E 20 [(0, .ref (e_q E 30)), (1, .int x1), (2, .int y2_2), (3, .int y3_20), (4, .int y4_20)] [] s2 := by
        intro n20
        induction n20 with
        | zero => intro y3_20 y4_20 hm; exact absurd hm (Nat.not_lt_zero _)
        | succ n20 ih20 =>
          intro y3_20 y4_20 hm20 b2_20 b3_20 b4_20
          refine at_iload C 4 dX7_findGood_20 rfl ?_
          refine at_aload_n C 0 dX7_findGood_22 rfl ?_
          refine gf_X7_87 C dX7_findGood_23 ?_
          refine at_icmp_ge C 70 dX7_findGood_26 (by decide) (fun c1051 => ?_) (fun c1051 => ?_)
          · exact at_sub [0, 1, 2, 3] rfl (K70 y3_20 (show iv 0 1023 y2_2 from b2_20) (show iv 0 1 y3_20 from b3_20))
          · have f1052 : iv 0 9 y4_20 := (iv_ltl b4_20 (show iv 0 10 (ac_gi s2 15) from hG_2.1.1 15) (Int32.not_le.mp c1051))
            have f1053 : iv 1 10 (ac_gi s2 15) := (iv_ltr b4_20 (show iv 0 10 (ac_gi s2 15) from hG_2.1.1 15) (Int32.not_le.mp c1051))
            refine at_iload_n C 3 dX7_findGood_29 rfl ?_
            refine at_if_eq C 70 dX7_findGood_30 (by decide) (fun c1054 => ?_) (fun c1054 => ?_)
            · have f1055 : iv 0 0 y3_20 := (iv_eql (iv_c (c := 0) (x := (0 : Int32)) (by decide)) c1054)
              exact at_sub [0, 1, 2, 3] rfl (K70 y3_20 (show iv 0 1023 y2_2 from b2_20) (iv_wk f1055 (by decide) (by decide) : iv 0 1 y3_20))
            · have f1056 : iv 1 1 y3_20 := (iv_nel b3_20 (by decide) c1054)
              refine at_iload_n C 2 dX7_findGood_33 rfl ?_
              refine at_iload C 4 dX7_findGood_34 rfl ?_
              refine at_ishr C dX7_findGood_36 ?_
              refine at_iconst C (1 : Int32) dX7_findGood_37 (by decide) ?_
              refine at_iand C dX7_findGood_38 ?_
              refine at_if_eq C 58 dX7_findGood_39 (by decide) (fun c1057 => ?_) (fun c1057 => ?_)
              · have f1058 : iv 0 0 ((y2_2 >>> (y4_20 &&& 31)) &&& (1 : Int32)) := (iv_eql (iv_c (c := 0) (x := (0 : Int32)) (by decide)) c1057)
                refine at_iconst C (1 : Int32) dX7_findGood_58 (by decide) ?_
                refine at_goto C 63 dX7_findGood_59 (by decide) ?_
                refine at_istore_n C (lv' := [(3, .int (1 : Int32)), (0, .ref (e_q E 30)), (1, .int x1), (2, .int y2_2), (4, .int y4_20)]) dX7_findGood_63 hn3 rfl ?_
                refine at_iinc C (v := (y4_20 + (1 : Int32))) (lv' := [(4, .int (y4_20 + (1 : Int32))), (3, .int (1 : Int32)), (0, .ref (e_q E 30)), (1, .int x1), (2, .int y2_2)]) 4 dX7_findGood_64 rfl rfl hn4 rfl ?_
                refine at_goto C 20 dX7_findGood_67 (by decide) ?_
                exact at_sub [2, 3, 4, 1, 0] rfl (ih20 (1 : Int32) (y4_20 + (1 : Int32)) (mz_up hm20 (ac_ti1 f1052 (iv_c (c := 1) (x := (1 : Int32)) (by decide)) (by decide) (by decide) (by decide)) (by decide) (iv_wk (iv_add f1052 (iv_c (c := 1) (x := (1 : Int32)) (by decide)) (by decide) (by decide)) (by decide) (by decide) : iv 0 10 (y4_20 + (1 : Int32))).2) (show iv 0 1023 y2_2 from b2_20) (iv_wk (iv_c (c := 1) (x := (1 : Int32)) (by decide)) (by decide) (by decide) : iv 0 1 (1 : Int32)) (iv_wk (iv_add f1052 (iv_c (c := 1) (x := (1 : Int32)) (by decide)) (by decide) (by decide)) (by decide) (by decide) : iv 0 10 (y4_20 + (1 : Int32))))
              · have f1059 : iv 1 1 ((y2_2 >>> (y4_20 &&& 31)) &&& (1 : Int32)) := (iv_nel (iv_andr (iv_wk (c := 0) (iv_c (c := 1) (x := (1 : Int32)) (by decide)) (by decide) (Int.le_refl _))) (by decide) c1057)
                refine at_aload_n C 0 dX7_findGood_42 rfl ?_
                refine gf_X7_29 C dX7_findGood_43 ?_
                refine at_iload_n C 2 dX7_findGood_46 rfl ?_
                refine at_iconst C (1 : Int32) dX7_findGood_47 (by decide) ?_
                refine at_iload C 4 dX7_findGood_48 rfl ?_
                refine at_ishl C dX7_findGood_50 ?_
                refine at_iconst C (-1 : Int32) dX7_findGood_51 (by decide) ?_
                refine at_ixor C dX7_findGood_52 ?_
                refine at_iand C dX7_findGood_53 ?_
                refine at_zald C (c := 35) rfl (iv_in (n := 1024) (iv_andl b2_20) (by decide) (by decide)) dX7_findGood_54 ?_
                refine at_if_eq C 62 dX7_findGood_55 (by decide) (fun c1060 => ?_) (fun c1060 => ?_)
                · have f1061 : iv 0 0 (ac_ga s2 35 ((y2_2 &&& (((1 : Int32) <<< (y4_20 &&& 31)) ^^^ (-1 : Int32)))).toNatClampNeg) := (iv_eql (iv_c (c := 0) (x := (0 : Int32)) (by decide)) c1060)
                  refine at_iconst C (0 : Int32) dX7_findGood_62 (by decide) ?_
                  refine at_istore_n C (lv' := [(3, .int (0 : Int32)), (0, .ref (e_q E 30)), (1, .int x1), (2, .int y2_2), (4, .int y4_20)]) dX7_findGood_63 hn3 rfl ?_
                  refine at_iinc C (v := (y4_20 + (1 : Int32))) (lv' := [(4, .int (y4_20 + (1 : Int32))), (3, .int (0 : Int32)), (0, .ref (e_q E 30)), (1, .int x1), (2, .int y2_2)]) 4 dX7_findGood_64 rfl rfl hn4 rfl ?_
                  refine at_goto C 20 dX7_findGood_67 (by decide) ?_
                  exact at_sub [2, 3, 4, 1, 0] rfl (ih20 (0 : Int32) (y4_20 + (1 : Int32)) (mz_up hm20 (ac_ti1 f1052 (iv_c (c := 1) (x := (1 : Int32)) (by decide)) (by decide) (by decide) (by decide)) (by decide) (iv_wk (iv_add f1052 (iv_c (c := 1) (x := (1 : Int32)) (by decide)) (by decide) (by decide)) (by decide) (by decide) : iv 0 10 (y4_20 + (1 : Int32))).2) (show iv 0 1023 y2_2 from b2_20) (iv_wk (iv_c (c := 0) (x := (0 : Int32)) (by decide)) (by decide) (by decide) : iv 0 1 (0 : Int32)) (iv_wk (iv_add f1052 (iv_c (c := 1) (x := (1 : Int32)) (by decide)) (by decide) (by decide)) (by decide) (by decide) : iv 0 10 (y4_20 + (1 : Int32))))
                · refine at_iconst C (1 : Int32) dX7_findGood_58 (by decide) ?_
                  refine at_goto C 63 dX7_findGood_59 (by decide) ?_
                  refine at_istore_n C (lv' := [(3, .int (1 : Int32)), (0, .ref (e_q E 30)), (1, .int x1), (2, .int y2_2), (4, .int y4_20)]) dX7_findGood_63 hn3 rfl ?_
                  refine at_iinc C (v := (y4_20 + (1 : Int32))) (lv' := [(4, .int (y4_20 + (1 : Int32))), (3, .int (1 : Int32)), (0, .ref (e_q E 30)), (1, .int x1), (2, .int y2_2)]) 4 dX7_findGood_64 rfl rfl hn4 rfl ?_
                  refine at_goto C 20 dX7_findGood_67 (by decide) ?_
                  exact at_sub [2, 3, 4, 1, 0] rfl (ih20 (1 : Int32) (y4_20 + (1 : Int32)) (mz_up hm20 (ac_ti1 f1052 (iv_c (c := 1) (x := (1 : Int32)) (by decide)) (by decide) (by decide) (by decide)) (by decide) (iv_wk (iv_add f1052 (iv_c (c := 1) (x := (1 : Int32)) (by decide)) (by decide) (by decide)) (by decide) (by decide) : iv 0 10 (y4_20 + (1 : Int32))).2) (show iv 0 1023 y2_2 from b2_20) (iv_wk (iv_c (c := 1) (x := (1 : Int32)) (by decide)) (by decide) (by decide) : iv 0 1 (1 : Int32)) (iv_wk (iv_add f1052 (iv_c (c := 1) (x := (1 : Int32)) (by decide)) (by decide) (by decide)) (by decide) (by decide) : iv 0 10 (y4_20 + (1 : Int32))))
      refine at_iload_n C 2 dX7_findGood_2 rfl ?_
      refine at_iload_n C 1 dX7_findGood_3 rfl ?_
      refine at_icmp_gt C 99 dX7_findGood_4 (by decide) (fun c1062 => ?_) (fun c1062 => ?_)
      · have f1063 : iv 1 1024 y2_2 := (iv_ltr g1 b2_2 c1062)
        exact hR _ _ _ dX7_findGood_99 hG_2
      · have f1064 : iv 0 1023 y2_2 := (iv_lel b2_2 g1 (Int32.not_lt.mp c1062))
        refine at_iload_n C 2 dX7_findGood_7 rfl ?_
        refine at_iload_n C 1 dX7_findGood_8 rfl ?_
        refine at_iconst C (-1 : Int32) dX7_findGood_9 (by decide) ?_
        refine at_ixor C dX7_findGood_10 ?_
        refine at_iand C dX7_findGood_11 ?_
        refine at_if_ne C 93 dX7_findGood_12 (by decide) (fun c1065 => ?_) (fun c1065 => ?_)
        · have f1066 : iv 1 1023 (y2_2 &&& (x1 ^^^ (-1 : Int32))) := (iv_nel (iv_andl f1064) (by decide) c1065)
          refine at_iinc C (v := (y2_2 + (1 : Int32))) (lv' := [(2, .int (y2_2 + (1 : Int32))), (0, .ref (e_q E 30)), (1, .int x1)]) 2 dX7_findGood_93 rfl rfl hn2 rfl ?_
          refine at_goto C 2 dX7_findGood_96 (by decide) ?_
          exact at_sub [1, 2, 0] rfl (ih2 (y2_2 + (1 : Int32)) s2 (mz_up hm2 (ac_ti1 f1064 (iv_c (c := 1) (x := (1 : Int32)) (by decide)) (by decide) (by decide) (by decide)) (by decide) (iv_wk (iv_add f1064 (iv_c (c := 1) (x := (1 : Int32)) (by decide)) (by decide) (by decide)) (by decide) (by decide) : iv 0 1024 (y2_2 + (1 : Int32))).2) (iv_wk (iv_add f1064 (iv_c (c := 1) (x := (1 : Int32)) (by decide)) (by decide) (by decide)) (by decide) (by decide) : iv 0 1024 (y2_2 + (1 : Int32))) hG_2)
        · have f1067 : iv 0 0 (y2_2 &&& (x1 ^^^ (-1 : Int32))) := (iv_eql (iv_c (c := 0) (x := (0 : Int32)) (by decide)) c1065)
          refine at_iconst C (1 : Int32) dX7_findGood_15 (by decide) ?_
          refine at_istore_n C (lv' := [(3, .int (1 : Int32)), (0, .ref (e_q E 30)), (1, .int x1), (2, .int y2_2)]) dX7_findGood_16 hn3 rfl ?_
          refine at_iconst C (0 : Int32) dX7_findGood_17 (by decide) ?_
          refine at_istore C (lv' := [(4, .int (0 : Int32)), (3, .int (1 : Int32)), (0, .ref (e_q E 30)), (1, .int x1), (2, .int y2_2)]) dX7_findGood_18 hn4 rfl ?_
          exact at_sub [2, 3, 4, 1, 0] rfl (K20 _ (1 : Int32) (0 : Int32) (Nat.lt_succ_self _) (show iv 0 1023 y2_2 from f1064) (iv_wk (iv_c (c := 1) (x := (1 : Int32)) (by decide)) (by decide) (by decide) : iv 0 1 (1 : Int32)) (iv_wk (iv_c (c := 0) (x := (0 : Int32)) (by decide)) (by decide) (by decide) : iv 0 10 (0 : Int32)))
  refine at_iconst C (0 : Int32) dX7_findGood_0 (by decide) ?_
  refine at_istore_n C (lv' := [(2, .int (0 : Int32)), (0, .ref (e_q E 30)), (1, .int x1)]) dX7_findGood_1 hn2 rfl ?_
  exact at_sub [1, 2, 0] rfl (K2 _ (0 : Int32) σ (Nat.lt_succ_self _) (iv_wk (iv_c (c := 0) (x := (0 : Int32)) (by decide)) (by decide) (by decide) : iv 0 1024 (0 : Int32)) hG0)
set_option maxHeartbeats 4000000 in
set_option maxRecDepth 100000 in
theorem ct_X7_reason (σ : SS) (x1 : Int32) (hI : Inv σ) : ConI yX7_reason cX7_reason 5 (some .int) 4 (some 30) [.int x1] σ (fun r σ' => Gd σ σ' ∧ iv (-2147483648) 2147483647 r) := by
  refine conI_of (by decide) (fun q => Nat.le_of_ble_eq_true rfl) (fun E C en hR => ?_)
  have hn2 : 2 < e_n E := by rw [en]; decide
  have hn3 : 3 < e_n E := by rw [en]; decide
  have hn4 : 4 < e_n E := by rw [en]; decide
  have hG0 : Gd σ σ := Gd.rf hI
  have K31 : ∀ (n31 : Nat) (y2_31 : Int32) (y3_31 : Int32) (s31 : SS), (1024 - (y3_31).toInt).toNat < n31 → iv 0 1023 x1 → iv 0 1023 y2_31 → iv 0 1024 y3_31 → Gd σ s31 → AT E 31 [(0, .ref (e_q E 30)), (1, .int x1), (2, .int y2_31), (3, .int y3_31)] [] s31 := by
    intro n31
    induction n31 with
    | zero => intro y2_31 y3_31 s31 hm; exact absurd hm (Nat.not_lt_zero _)
    | succ n31 ih31 =>
      intro y2_31 y3_31 s31 hm31 b1_31 b2_31 b3_31 hG_31
      have K58 : ∀ (z0_58 : Int32), iv 0 1023 y3_31 → iv 0 1 z0_58 → AT E 58 [(0, .ref (e_q E 30)), (1, .int x1), (2, .int y2_31), (3, .int y3_31)] [.int z0_58] s31 := by
        intro z0_58 b3_58 bz0_58
        refine at_istore C (lv' := [(4, .int z0_58), (0, .ref (e_q E 30)), (1, .int x1), (2, .int y2_31), (3, .int y3_31)]) dX7_reason_58 hn4 rfl ?_
        refine at_iload C 0 dX7_reason_60 rfl ?_
        refine at_if_eq C 96 dX7_reason_62 (by decide) (fun c1561 => ?_) (fun c1561 => ?_)
        · have f1562 : iv 0 0 z0_58 := (iv_eql (iv_c (c := 0) (x := (0 : Int32)) (by decide)) c1561)
          refine at_iload_n C 3 dX7_reason_96 rfl ?_
          refine at_istore_n C (lv' := [(2, .int y2_31), (4, .int z0_58), (0, .ref (e_q E 30)), (1, .int x1), (3, .int y3_31)]) dX7_reason_97 hn2 rfl ?_
          refine at_iinc C (v := (y3_31 + (1 : Int32))) (lv' := [(3, .int (y3_31 + (1 : Int32))), (2, .int y2_31), (4, .int z0_58), (0, .ref (e_q E 30)), (1, .int x1)]) 4 dX7_reason_98 rfl rfl hn3 rfl ?_
          refine at_goto C 31 dX7_reason_101 (by decide) ?_
          exact at_sub [3, 4, 1, 0] rfl (ih31 y2_31 (y3_31 + (1 : Int32)) s31 (mz_up hm31 (ac_ti1 b3_58 (iv_c (c := 1) (x := (1 : Int32)) (by decide)) (by decide) (by decide) (by decide)) (by decide) (iv_wk (iv_add b3_58 (iv_c (c := 1) (x := (1 : Int32)) (by decide)) (by decide) (by decide)) (by decide) (by decide) : iv 0 1024 (y3_31 + (1 : Int32))).2) (show iv 0 1023 x1 from b1_31) (show iv 0 1023 y2_31 from b2_31) (iv_wk (iv_add b3_58 (iv_c (c := 1) (x := (1 : Int32)) (by decide)) (by decide) (by decide)) (by decide) (by decide) : iv 0 1024 (y3_31 + (1 : Int32))) hG_31)
        · have f1563 : iv 1 1 z0_58 := (iv_nel bz0_58 (by decide) c1561)
          refine at_iload_n C 4 dX7_reason_65 rfl ?_
          refine at_Si C (As := [.int y3_31]) (st := []) (ct_X7_ones s31 y3_31 hG_31.1) mb_X7_ones ml_X7_144 rfl (by decide) rfl (Nat.le_of_ble_eq_true rfl) dX7_reason_66 ?_
          rintro r1564 _ ⟨rfl, f1565, mo1566⟩
          refine at_iload_n C 3 dX7_reason_69 rfl ?_
          refine at_Si C (As := [.int y2_31]) (st := [.int r1564]) (ct_X7_ones s31 y2_31 hG_31.1) mb_X7_ones ml_X7_144 rfl (by decide) rfl (Nat.le_of_ble_eq_true rfl) dX7_reason_70 ?_
          rintro r1567 _ ⟨rfl, f1568, mo1569⟩
          refine at_icmp_lt C 92 dX7_reason_73 (by decide) (fun c1570 => ?_) (fun c1570 => ?_)
          · have f1571 : iv (-2147483648) 2147483646 r1564 := (iv_ltl f1565 f1568 c1570)
            have f1572 : iv (-2147483647) 2147483647 r1567 := (iv_ltr f1565 f1568 c1570)
            refine at_iload_n C 4 dX7_reason_92 rfl ?_
            refine at_goto C 97 dX7_reason_93 (by decide) ?_
            refine at_istore_n C (lv' := [(2, .int y3_31), (4, .int z0_58), (0, .ref (e_q E 30)), (1, .int x1), (3, .int y3_31)]) dX7_reason_97 hn2 rfl ?_
            refine at_iinc C (v := (y3_31 + (1 : Int32))) (lv' := [(3, .int (y3_31 + (1 : Int32))), (2, .int y3_31), (4, .int z0_58), (0, .ref (e_q E 30)), (1, .int x1)]) 4 dX7_reason_98 rfl rfl hn3 rfl ?_
            refine at_goto C 31 dX7_reason_101 (by decide) ?_
            exact at_sub [3, 4, 1, 0] rfl (ih31 y3_31 (y3_31 + (1 : Int32)) s31 (mz_up hm31 (ac_ti1 b3_58 (iv_c (c := 1) (x := (1 : Int32)) (by decide)) (by decide) (by decide) (by decide)) (by decide) (iv_wk (iv_add b3_58 (iv_c (c := 1) (x := (1 : Int32)) (by decide)) (by decide) (by decide)) (by decide) (by decide) : iv 0 1024 (y3_31 + (1 : Int32))).2) (show iv 0 1023 x1 from b1_31) (show iv 0 1023 y3_31 from b3_58) (iv_wk (iv_add b3_58 (iv_c (c := 1) (x := (1 : Int32)) (by decide)) (by decide) (by decide)) (by decide) (by decide) : iv 0 1024 (y3_31 + (1 : Int32))) hG_31)
          · refine at_iload_n C 4 dX7_reason_76 rfl ?_
            refine at_Si C (As := [.int y3_31]) (st := []) (ct_X7_ones s31 y3_31 hG_31.1) mb_X7_ones ml_X7_144 rfl (by decide) rfl (Nat.le_of_ble_eq_true rfl) dX7_reason_77 ?_
            rintro r1573 _ ⟨rfl, f1574, mo1575⟩
            refine at_iload_n C 3 dX7_reason_80 rfl ?_
            refine at_Si C (As := [.int y2_31]) (st := [.int r1573]) (ct_X7_ones s31 y2_31 hG_31.1) mb_X7_ones ml_X7_144 rfl (by decide) rfl (Nat.le_of_ble_eq_true rfl) dX7_reason_81 ?_
            rintro r1576 _ ⟨rfl, f1577, mo1578⟩
            refine at_icmp_ne C 96 dX7_reason_84 (by decide) (fun c1579 => ?_) (fun c1579 => ?_)
            · refine at_iload_n C 3 dX7_reason_96 rfl ?_
              refine at_istore_n C (lv' := [(2, .int y2_31), (4, .int z0_58), (0, .ref (e_q E 30)), (1, .int x1), (3, .int y3_31)]) dX7_reason_97 hn2 rfl ?_
              refine at_iinc C (v := (y3_31 + (1 : Int32))) (lv' := [(3, .int (y3_31 + (1 : Int32))), (2, .int y2_31), (4, .int z0_58), (0, .ref (e_q E 30)), (1, .int x1)]) 4 dX7_reason_98 rfl rfl hn3 rfl ?_
              refine at_goto C 31 dX7_reason_101 (by decide) ?_
              exact at_sub [3, 4, 1, 0] rfl (ih31 y2_31 (y3_31 + (1 : Int32)) s31 (mz_up hm31 (ac_ti1 b3_58 (iv_c (c := 1) (x := (1 : Int32)) (by decide)) (by decide) (by decide) (by decide)) (by decide) (iv_wk (iv_add b3_58 (iv_c (c := 1) (x := (1 : Int32)) (by decide)) (by decide) (by decide)) (by decide) (by decide) : iv 0 1024 (y3_31 + (1 : Int32))).2) (show iv 0 1023 x1 from b1_31) (show iv 0 1023 y2_31 from b2_31) (iv_wk (iv_add b3_58 (iv_c (c := 1) (x := (1 : Int32)) (by decide)) (by decide) (by decide)) (by decide) (by decide) : iv 0 1024 (y3_31 + (1 : Int32))) hG_31)
            · refine at_iload_n C 4 dX7_reason_87 rfl ?_
              refine at_iload_n C 3 dX7_reason_88 rfl ?_
              refine at_icmp_ge C 96 dX7_reason_89 (by decide) (fun c1580 => ?_) (fun c1580 => ?_)
              · refine at_iload_n C 3 dX7_reason_96 rfl ?_
                refine at_istore_n C (lv' := [(2, .int y2_31), (4, .int z0_58), (0, .ref (e_q E 30)), (1, .int x1), (3, .int y3_31)]) dX7_reason_97 hn2 rfl ?_
                refine at_iinc C (v := (y3_31 + (1 : Int32))) (lv' := [(3, .int (y3_31 + (1 : Int32))), (2, .int y2_31), (4, .int z0_58), (0, .ref (e_q E 30)), (1, .int x1)]) 4 dX7_reason_98 rfl rfl hn3 rfl ?_
                refine at_goto C 31 dX7_reason_101 (by decide) ?_
                exact at_sub [3, 4, 1, 0] rfl (ih31 y2_31 (y3_31 + (1 : Int32)) s31 (mz_up hm31 (ac_ti1 b3_58 (iv_c (c := 1) (x := (1 : Int32)) (by decide)) (by decide) (by decide) (by decide)) (by decide) (iv_wk (iv_add b3_58 (iv_c (c := 1) (x := (1 : Int32)) (by decide)) (by decide) (by decide)) (by decide) (by decide) : iv 0 1024 (y3_31 + (1 : Int32))).2) (show iv 0 1023 x1 from b1_31) (show iv 0 1023 y2_31 from b2_31) (iv_wk (iv_add b3_58 (iv_c (c := 1) (x := (1 : Int32)) (by decide)) (by decide) (by decide)) (by decide) (by decide) : iv 0 1024 (y3_31 + (1 : Int32))) hG_31)
              · have f1581 : iv 0 1022 y3_31 := (iv_ltl b3_58 b2_31 (Int32.not_le.mp c1580))
                have f1582 : iv 1 1023 y2_31 := (iv_ltr b3_58 b2_31 (Int32.not_le.mp c1580))
                refine at_iload_n C 4 dX7_reason_92 rfl ?_
                refine at_goto C 97 dX7_reason_93 (by decide) ?_
                refine at_istore_n C (lv' := [(2, .int y3_31), (4, .int z0_58), (0, .ref (e_q E 30)), (1, .int x1), (3, .int y3_31)]) dX7_reason_97 hn2 rfl ?_
                refine at_iinc C (v := (y3_31 + (1 : Int32))) (lv' := [(3, .int (y3_31 + (1 : Int32))), (2, .int y3_31), (4, .int z0_58), (0, .ref (e_q E 30)), (1, .int x1)]) 4 dX7_reason_98 rfl rfl hn3 rfl ?_
                refine at_goto C 31 dX7_reason_101 (by decide) ?_
                exact at_sub [3, 4, 1, 0] rfl (ih31 y3_31 (y3_31 + (1 : Int32)) s31 (mz_up hm31 (ac_ti1 f1581 (iv_c (c := 1) (x := (1 : Int32)) (by decide)) (by decide) (by decide) (by decide)) (by decide) (iv_wk (iv_add f1581 (iv_c (c := 1) (x := (1 : Int32)) (by decide)) (by decide) (by decide)) (by decide) (by decide) : iv 0 1024 (y3_31 + (1 : Int32))).2) (show iv 0 1023 x1 from b1_31) (iv_wk f1581 (by decide) (by decide) : iv 0 1023 y3_31) (iv_wk (iv_add f1581 (iv_c (c := 1) (x := (1 : Int32)) (by decide)) (by decide) (by decide)) (by decide) (by decide) : iv 0 1024 (y3_31 + (1 : Int32))) hG_31)
      have K57 : iv 0 1023 y3_31 → AT E 57 [(0, .ref (e_q E 30)), (1, .int x1), (2, .int y2_31), (3, .int y3_31)] [] s31 := by
        intro b3_57
        refine at_iconst C (0 : Int32) dX7_reason_57 (by decide) ?_
        exact at_sub [0, 1, 2, 3] rfl (K58 (0 : Int32) (show iv 0 1023 y3_31 from b3_57) (iv_wk (iv_c (c := 0) (x := (0 : Int32)) (by decide)) (by decide) (by decide) : iv 0 1 (0 : Int32)))
      refine at_iload_n C 3 dX7_reason_31 rfl ?_
      refine at_iload_n C 1 dX7_reason_32 rfl ?_
      refine at_icmp_gt C 104 dX7_reason_33 (by decide) (fun c1583 => ?_) (fun c1583 => ?_)
      · have f1584 : iv 1 1024 y3_31 := (iv_ltr b1_31 b3_31 c1583)
        refine at_iload_n C 2 dX7_reason_104 rfl ?_
        exact hR _ _ _ _ dX7_reason_105 ⟨hG_31, (iv_wk b2_31 (by decide) (by decide) : iv (-2147483648) 2147483647 y2_31)⟩
      · have f1585 : iv 0 1023 y3_31 := (iv_lel b3_31 b1_31 (Int32.not_lt.mp c1583))
        refine at_iload_n C 3 dX7_reason_36 rfl ?_
        refine at_iload_n C 1 dX7_reason_37 rfl ?_
        refine at_iconst C (-1 : Int32) dX7_reason_38 (by decide) ?_
        refine at_ixor C dX7_reason_39 ?_
        refine at_iand C dX7_reason_40 ?_
        refine at_if_ne C 57 dX7_reason_41 (by decide) (fun c1586 => ?_) (fun c1586 => ?_)
        · have f1587 : iv 1 1023 (y3_31 &&& (x1 ^^^ (-1 : Int32))) := (iv_nel (iv_andl f1585) (by decide) c1586)
          exact at_sub [0, 1, 2, 3] rfl (K57 (show iv 0 1023 y3_31 from f1585))
        · have f1588 : iv 0 0 (y3_31 &&& (x1 ^^^ (-1 : Int32))) := (iv_eql (iv_c (c := 0) (x := (0 : Int32)) (by decide)) c1586)
          refine at_aload_n C 0 dX7_reason_44 rfl ?_
          refine gf_X7_29 C dX7_reason_45 ?_
          refine at_iload_n C 3 dX7_reason_48 rfl ?_
          refine at_zald C (c := 35) rfl (iv_in (n := 1024) f1585 (by decide) (by decide)) dX7_reason_49 ?_
          refine at_if_ne C 57 dX7_reason_50 (by decide) (fun c1589 => ?_) (fun c1589 => ?_)
          · exact at_sub [0, 1, 2, 3] rfl (K57 (show iv 0 1023 y3_31 from f1585))
          · have f1590 : iv 0 0 (ac_ga s31 35 (y3_31).toNatClampNeg) := (iv_eql (iv_c (c := 0) (x := (0 : Int32)) (by decide)) c1589)
            refine at_iconst C (1 : Int32) dX7_reason_53 (by decide) ?_
            refine at_goto C 58 dX7_reason_54 (by decide) ?_
            exact at_sub [0, 1, 2, 3] rfl (K58 (1 : Int32) (show iv 0 1023 y3_31 from f1585) (iv_wk (iv_c (c := 1) (x := (1 : Int32)) (by decide)) (by decide) (by decide) : iv 0 1 (1 : Int32)))
  refine at_aload_n C 0 dX7_reason_0 rfl ?_
  refine at_iload_n C 1 dX7_reason_1 rfl ?_
  refine at_Vi C (As := [.int x1]) (st := []) (b := 30) (ci := 7) (ct_X7_noSet σ x1 hI) mb_X7_noSet ml_X7_131 rfl rfl rfl (by decide) rfl (Nat.le_of_ble_eq_true rfl) dX7_reason_2 ?_
  rintro _ _ ⟨rfl, ⟨rfl, c1591⟩ | ⟨rfl, c1591⟩⟩
  · refine at_if_eq C 11 dX7_reason_5 (by decide) (fun c1593 => absurd c1593 (iv_xeq (iv_c (c := 1) (x := (1 : Int32)) (by decide)) (iv_c (c := 0) (x := (0 : Int32)) (by decide)) (by decide))) (fun c1593 => ?_)
    refine at_bipush C (-2 : Int32) dX7_reason_8 (by decide) ?_
    exact hR _ _ _ _ dX7_reason_10 ⟨hG0, (iv_wk (iv_c (c := (-2)) (x := (-2 : Int32)) (by decide)) (by decide) (by decide) : iv (-2147483648) 2147483647 (-2 : Int32))⟩
  · have f1594 : iv 0 1023 x1 := (iv_of3 (Classical.not_not.mp c1591) (iv_shl1 (a := 0) (b := 10) (show iv 0 10 (ac_gi σ 15) from hI.1 15) (by decide)))
    refine at_if_eq C 11 dX7_reason_5 (by decide) (fun c1595 => ?_) (fun c1595 => absurd (iv_xne (iv_c (c := 0) (x := (0 : Int32)) (by decide)) (iv_c (c := 0) (x := (0 : Int32)) (by decide))) c1595)
    refine at_aload_n C 0 dX7_reason_11 rfl ?_
    refine at_iload_n C 1 dX7_reason_12 rfl ?_
    refine at_Vi C (As := [.int x1]) (st := []) (b := 30) (ci := 7) (ct_X7_packs σ x1 hI) mb_X7_packs ml_X7_138 rfl rfl rfl (by decide) rfl (Nat.le_of_ble_eq_true rfl) dX7_reason_13 ?_
    rintro _ u1598 ⟨hg1597, rfl | rfl⟩
    · have hG1600 := hG0.tr hg1597
      refine at_if_eq C 22 dX7_reason_16 (by decide) (fun c1601 => ?_) (fun c1601 => absurd (iv_xne (iv_c (c := 0) (x := (0 : Int32)) (by decide)) (iv_c (c := 0) (x := (0 : Int32)) (by decide))) c1601)
      refine at_aload_n C 0 dX7_reason_22 rfl ?_
      refine at_iload_n C 1 dX7_reason_23 rfl ?_
      refine at_Vv C (As := [.int x1]) (st := []) (b := 30) (ci := 7) (ct_X7_findGood u1598 x1 hg1597.1 (show iv 0 1023 x1 from f1594)) mb_X7_findGood ml_X7_141 rfl rfl rfl (by decide) rfl (Nat.le_of_ble_eq_true rfl) dX7_reason_24 ?_
      rintro u1602 hg1603
      have hG1604 := hG1600.tr hg1603
      refine at_iload_n C 1 dX7_reason_27 rfl ?_
      refine at_istore_n C (lv' := [(2, .int x1), (0, .ref (e_q E 30)), (1, .int x1)]) dX7_reason_28 hn2 rfl ?_
      refine at_iconst C (0 : Int32) dX7_reason_29 (by decide) ?_
      refine at_istore_n C (lv' := [(3, .int (0 : Int32)), (2, .int x1), (0, .ref (e_q E 30)), (1, .int x1)]) dX7_reason_30 hn3 rfl ?_
      exact at_sub [2, 3, 1, 0] rfl (K31 _ x1 (0 : Int32) u1602 (Nat.lt_succ_self _) (show iv 0 1023 x1 from f1594) (show iv 0 1023 x1 from f1594) (iv_wk (iv_c (c := 0) (x := (0 : Int32)) (by decide)) (by decide) (by decide) : iv 0 1024 (0 : Int32)) hG1604)
    · have hG1605 := hG0.tr hg1597
      refine at_if_eq C 22 dX7_reason_16 (by decide) (fun c1606 => absurd c1606 (iv_xeq (iv_c (c := 1) (x := (1 : Int32)) (by decide)) (iv_c (c := 0) (x := (0 : Int32)) (by decide)) (by decide))) (fun c1606 => ?_)
      refine at_bipush C (-3 : Int32) dX7_reason_19 (by decide) ?_
      exact hR _ _ _ _ dX7_reason_21 ⟨hG1605, (iv_wk (iv_c (c := (-3)) (x := (-3 : Int32)) (by decide)) (by decide) (by decide) : iv (-2147483648) 2147483647 (-3 : Int32))⟩
set_option maxHeartbeats 4000000 in
set_option maxRecDepth 100000 in
theorem ct_X7_spare (σ : SS) (x1 : Int32) (hI : Inv σ) : ConI yX7_spare cX7_spare 4 (some .int) 3 (some 30) [.int x1] σ (fun r σ' => Gd σ σ' ∧ iv (-2147483648) 2147483647 r) := by
  refine conI_of (by decide) (fun q => Nat.le_of_ble_eq_true rfl) (fun E C en hR => ?_)
  have hn2 : 2 < e_n E := by rw [en]; decide
  have hn3 : 3 < e_n E := by rw [en]; decide
  have hG0 : Gd σ σ := Gd.rf hI
  have K26 : ∀ (n26 : Nat) (y2_26 : Int32) (y3_26 : Int32) (s26 : SS), (10 - (y3_26).toInt).toNat < n26 → iv 0 1023 x1 → iv 0 1023 y2_26 → iv 0 10 y3_26 → Gd σ s26 → AT E 26 [(0, .ref (e_q E 30)), (1, .int x1), (2, .int y2_26), (3, .int y3_26)] [] s26 := by
    intro n26
    induction n26 with
    | zero => intro y2_26 y3_26 s26 hm; exact absurd hm (Nat.not_lt_zero _)
    | succ n26 ih26 =>
      intro y2_26 y3_26 s26 hm26 b1_26 b2_26 b3_26 hG_26
      refine at_iload_n C 3 dX7_spare_26 rfl ?_
      refine at_aload_n C 0 dX7_spare_27 rfl ?_
      refine gf_X7_87 C dX7_spare_28 ?_
      refine at_icmp_ge C 70 dX7_spare_31 (by decide) (fun c406 => ?_) (fun c406 => ?_)
      · refine at_iload_n C 2 dX7_spare_70 rfl ?_
        exact hR _ _ _ _ dX7_spare_71 ⟨hG_26, (iv_wk b2_26 (by decide) (by decide) : iv (-2147483648) 2147483647 y2_26)⟩
      · have f407 : iv 0 9 y3_26 := (iv_ltl b3_26 (show iv 0 10 (ac_gi s26 15) from hG_26.1.1 15) (Int32.not_le.mp c406))
        have f408 : iv 1 10 (ac_gi s26 15) := (iv_ltr b3_26 (show iv 0 10 (ac_gi s26 15) from hG_26.1.1 15) (Int32.not_le.mp c406))
        refine at_iload_n C 2 dX7_spare_34 rfl ?_
        refine at_iload_n C 1 dX7_spare_35 rfl ?_
        refine at_iload_n C 3 dX7_spare_36 rfl ?_
        refine at_ishr C dX7_spare_37 ?_
        refine at_iconst C (1 : Int32) dX7_spare_38 (by decide) ?_
        refine at_iand C dX7_spare_39 ?_
        refine at_if_ne C 61 dX7_spare_40 (by decide) (fun c409 => ?_) (fun c409 => ?_)
        · have f410 : iv 1 1 ((x1 >>> (y3_26 &&& 31)) &&& (1 : Int32)) := (iv_nel (iv_andr (iv_wk (c := 0) (iv_c (c := 1) (x := (1 : Int32)) (by decide)) (by decide) (Int.le_refl _))) (by decide) c409)
          refine at_iconst C (0 : Int32) dX7_spare_61 (by decide) ?_
          refine at_ior C dX7_spare_62 ?_
          refine at_istore_n C (lv' := [(2, .int (y2_26 ||| (0 : Int32))), (0, .ref (e_q E 30)), (1, .int x1), (3, .int y3_26)]) dX7_spare_63 hn2 rfl ?_
          refine at_iinc C (v := (y3_26 + (1 : Int32))) (lv' := [(3, .int (y3_26 + (1 : Int32))), (2, .int (y2_26 ||| (0 : Int32))), (0, .ref (e_q E 30)), (1, .int x1)]) 3 dX7_spare_64 rfl rfl hn3 rfl ?_
          refine at_goto C 26 dX7_spare_67 (by decide) ?_
          exact at_sub [2, 3, 1, 0] rfl (ih26 (y2_26 ||| (0 : Int32)) (y3_26 + (1 : Int32)) s26 (mz_up hm26 (ac_ti1 f407 (iv_c (c := 1) (x := (1 : Int32)) (by decide)) (by decide) (by decide) (by decide)) (by decide) (iv_wk (iv_add f407 (iv_c (c := 1) (x := (1 : Int32)) (by decide)) (by decide) (by decide)) (by decide) (by decide) : iv 0 10 (y3_26 + (1 : Int32))).2) (show iv 0 1023 x1 from b1_26) (show iv 0 1023 (y2_26 ||| (0 : Int32)) from (iv_or 10 b2_26 (iv_c (c := 0) (x := (0 : Int32)) (by decide)) (by decide) (by decide) (by decide))) (iv_wk (iv_add f407 (iv_c (c := 1) (x := (1 : Int32)) (by decide)) (by decide) (by decide)) (by decide) (by decide) : iv 0 10 (y3_26 + (1 : Int32))) hG_26)
        · have f411 : iv 0 0 ((x1 >>> (y3_26 &&& 31)) &&& (1 : Int32)) := (iv_eql (iv_c (c := 0) (x := (0 : Int32)) (by decide)) c409)
          refine at_aload_n C 0 dX7_spare_43 rfl ?_
          refine at_iload_n C 1 dX7_spare_44 rfl ?_
          refine at_iconst C (1 : Int32) dX7_spare_45 (by decide) ?_
          refine at_iload_n C 3 dX7_spare_46 rfl ?_
          refine at_ishl C dX7_spare_47 ?_
          refine at_ior C dX7_spare_48 ?_
          refine at_Vi C (As := [.int (x1 ||| ((1 : Int32) <<< (y3_26 &&& 31)))]) (st := [.int y2_26]) (b := 30) (ci := 7) (ct_X7_packs s26 (x1 ||| ((1 : Int32) <<< (y3_26 &&& 31))) hG_26.1) mb_X7_packs ml_X7_138 rfl rfl rfl (by decide) rfl (Nat.le_of_ble_eq_true rfl) dX7_spare_49 ?_
          rintro _ u414 ⟨hg413, rfl | rfl⟩
          · have hG416 := hG_26.tr hg413
            refine at_if_eq C 61 dX7_spare_52 (by decide) (fun c417 => ?_) (fun c417 => absurd (iv_xne (iv_c (c := 0) (x := (0 : Int32)) (by decide)) (iv_c (c := 0) (x := (0 : Int32)) (by decide))) c417)
            refine at_iconst C (0 : Int32) dX7_spare_61 (by decide) ?_
            refine at_ior C dX7_spare_62 ?_
            refine at_istore_n C (lv' := [(2, .int (y2_26 ||| (0 : Int32))), (0, .ref (e_q E 30)), (1, .int x1), (3, .int y3_26)]) dX7_spare_63 hn2 rfl ?_
            refine at_iinc C (v := (y3_26 + (1 : Int32))) (lv' := [(3, .int (y3_26 + (1 : Int32))), (2, .int (y2_26 ||| (0 : Int32))), (0, .ref (e_q E 30)), (1, .int x1)]) 3 dX7_spare_64 rfl rfl hn3 rfl ?_
            refine at_goto C 26 dX7_spare_67 (by decide) ?_
            exact at_sub [2, 3, 1, 0] rfl (ih26 (y2_26 ||| (0 : Int32)) (y3_26 + (1 : Int32)) u414 (mz_up hm26 (ac_ti1 f407 (iv_c (c := 1) (x := (1 : Int32)) (by decide)) (by decide) (by decide) (by decide)) (by decide) (iv_wk (iv_add f407 (iv_c (c := 1) (x := (1 : Int32)) (by decide)) (by decide) (by decide)) (by decide) (by decide) : iv 0 10 (y3_26 + (1 : Int32))).2) (show iv 0 1023 x1 from b1_26) (show iv 0 1023 (y2_26 ||| (0 : Int32)) from (iv_or 10 b2_26 (iv_c (c := 0) (x := (0 : Int32)) (by decide)) (by decide) (by decide) (by decide))) (iv_wk (iv_add f407 (iv_c (c := 1) (x := (1 : Int32)) (by decide)) (by decide) (by decide)) (by decide) (by decide) : iv 0 10 (y3_26 + (1 : Int32))) hG416)
          · have hG418 := hG_26.tr hg413
            refine at_if_eq C 61 dX7_spare_52 (by decide) (fun c419 => absurd c419 (iv_xeq (iv_c (c := 1) (x := (1 : Int32)) (by decide)) (iv_c (c := 0) (x := (0 : Int32)) (by decide)) (by decide))) (fun c419 => ?_)
            refine at_iconst C (1 : Int32) dX7_spare_55 (by decide) ?_
            refine at_iload_n C 3 dX7_spare_56 rfl ?_
            refine at_ishl C dX7_spare_57 ?_
            refine at_goto C 62 dX7_spare_58 (by decide) ?_
            refine at_ior C dX7_spare_62 ?_
            refine at_istore_n C (lv' := [(2, .int (y2_26 ||| ((1 : Int32) <<< (y3_26 &&& 31)))), (0, .ref (e_q E 30)), (1, .int x1), (3, .int y3_26)]) dX7_spare_63 hn2 rfl ?_
            refine at_iinc C (v := (y3_26 + (1 : Int32))) (lv' := [(3, .int (y3_26 + (1 : Int32))), (2, .int (y2_26 ||| ((1 : Int32) <<< (y3_26 &&& 31)))), (0, .ref (e_q E 30)), (1, .int x1)]) 3 dX7_spare_64 rfl rfl hn3 rfl ?_
            refine at_goto C 26 dX7_spare_67 (by decide) ?_
            exact at_sub [2, 3, 1, 0] rfl (ih26 (y2_26 ||| ((1 : Int32) <<< (y3_26 &&& 31))) (y3_26 + (1 : Int32)) u414 (mz_up hm26 (ac_ti1 f407 (iv_c (c := 1) (x := (1 : Int32)) (by decide)) (by decide) (by decide) (by decide)) (by decide) (iv_wk (iv_add f407 (iv_c (c := 1) (x := (1 : Int32)) (by decide)) (by decide) (by decide)) (by decide) (by decide) : iv 0 10 (y3_26 + (1 : Int32))).2) (show iv 0 1023 x1 from b1_26) (show iv 0 1023 (y2_26 ||| ((1 : Int32) <<< (y3_26 &&& 31))) from (iv_or 10 b2_26 (iv_wk (c := 0) (iv_shl1 (a := 0) (b := 9) f407 (by decide)) (by decide) (Int.le_refl _)) (by decide) (by decide) (by decide))) (iv_wk (iv_add f407 (iv_c (c := 1) (x := (1 : Int32)) (by decide)) (by decide) (by decide)) (by decide) (by decide) : iv 0 10 (y3_26 + (1 : Int32))) hG418)
  refine at_aload_n C 0 dX7_spare_0 rfl ?_
  refine at_iload_n C 1 dX7_spare_1 rfl ?_
  refine at_Vi C (As := [.int x1]) (st := []) (b := 30) (ci := 7) (ct_X7_noSet σ x1 hI) mb_X7_noSet ml_X7_131 rfl rfl rfl (by decide) rfl (Nat.le_of_ble_eq_true rfl) dX7_spare_2 ?_
  rintro _ _ ⟨rfl, ⟨rfl, c420⟩ | ⟨rfl, c420⟩⟩
  · refine at_if_eq C 11 dX7_spare_5 (by decide) (fun c422 => absurd c422 (iv_xeq (iv_c (c := 1) (x := (1 : Int32)) (by decide)) (iv_c (c := 0) (x := (0 : Int32)) (by decide)) (by decide))) (fun c422 => ?_)
    refine at_bipush C (-2 : Int32) dX7_spare_8 (by decide) ?_
    exact hR _ _ _ _ dX7_spare_10 ⟨hG0, (iv_wk (iv_c (c := (-2)) (x := (-2 : Int32)) (by decide)) (by decide) (by decide) : iv (-2147483648) 2147483647 (-2 : Int32))⟩
  · have f423 : iv 0 1023 x1 := (iv_of3 (Classical.not_not.mp c420) (iv_shl1 (a := 0) (b := 10) (show iv 0 10 (ac_gi σ 15) from hI.1 15) (by decide)))
    refine at_if_eq C 11 dX7_spare_5 (by decide) (fun c424 => ?_) (fun c424 => absurd (iv_xne (iv_c (c := 0) (x := (0 : Int32)) (by decide)) (iv_c (c := 0) (x := (0 : Int32)) (by decide))) c424)
    refine at_aload_n C 0 dX7_spare_11 rfl ?_
    refine at_iload_n C 1 dX7_spare_12 rfl ?_
    refine at_Vi C (As := [.int x1]) (st := []) (b := 30) (ci := 7) (ct_X7_packs σ x1 hI) mb_X7_packs ml_X7_138 rfl rfl rfl (by decide) rfl (Nat.le_of_ble_eq_true rfl) dX7_spare_13 ?_
    rintro _ u427 ⟨hg426, rfl | rfl⟩
    · have hG429 := hG0.tr hg426
      refine at_if_ne C 22 dX7_spare_16 (by decide) (fun c430 => absurd (iv_xne (iv_c (c := 0) (x := (0 : Int32)) (by decide)) (iv_c (c := 0) (x := (0 : Int32)) (by decide))) c430) (fun c430 => ?_)
      refine at_bipush C (-3 : Int32) dX7_spare_19 (by decide) ?_
      exact hR _ _ _ _ dX7_spare_21 ⟨hG429, (iv_wk (iv_c (c := (-3)) (x := (-3 : Int32)) (by decide)) (by decide) (by decide) : iv (-2147483648) 2147483647 (-3 : Int32))⟩
    · have hG431 := hG0.tr hg426
      refine at_if_ne C 22 dX7_spare_16 (by decide) (fun c432 => ?_) (fun c432 => absurd c432 (iv_xeq (iv_c (c := 1) (x := (1 : Int32)) (by decide)) (iv_c (c := 0) (x := (0 : Int32)) (by decide)) (by decide)))
      refine at_iconst C (0 : Int32) dX7_spare_22 (by decide) ?_
      refine at_istore_n C (lv' := [(2, .int (0 : Int32)), (0, .ref (e_q E 30)), (1, .int x1)]) dX7_spare_23 hn2 rfl ?_
      refine at_iconst C (0 : Int32) dX7_spare_24 (by decide) ?_
      refine at_istore_n C (lv' := [(3, .int (0 : Int32)), (2, .int (0 : Int32)), (0, .ref (e_q E 30)), (1, .int x1)]) dX7_spare_25 hn3 rfl ?_
      exact at_sub [2, 3, 1, 0] rfl (K26 _ (0 : Int32) (0 : Int32) u427 (Nat.lt_succ_self _) (show iv 0 1023 x1 from f423) (iv_wk (iv_c (c := 0) (x := (0 : Int32)) (by decide)) (by decide) (by decide) : iv 0 1023 (0 : Int32)) (iv_wk (iv_c (c := 0) (x := (0 : Int32)) (by decide)) (by decide) (by decide) : iv 0 10 (0 : Int32)) hG431)
set_option maxHeartbeats 4000000 in
set_option maxRecDepth 100000 in
theorem ct_X7_olds (σ : SS) (hI : Inv σ) : ConI yX7_olds cX7_olds 3 (some .int) 1 (some 30) [] σ (fun r σ' => σ = σ' ∧ iv 0 1023 r ∧ (∀ j : Nat, tb r j = true ↔ ((j : Int) < (ac_gi σ 15).toInt ∧ ¬ ac_ga σ 36 j = 0))) := by
  refine conI_of (by decide) (fun q => Nat.le_of_ble_eq_true rfl) (fun E C en hR => ?_)
  have hn1 : 1 < e_n E := by rw [en]; decide
  have hn2 : 2 < e_n E := by rw [en]; decide
  have K4 : ∀ (n4 : Nat) (y1_4 : Int32) (y2_4 : Int32), (10 - (y2_4).toInt).toNat < n4 → iv 0 1023 y1_4 → iv 0 10 y2_4 → (ol_E (ac_ga σ 36) y1_4 y2_4 (ac_gi σ 15)) → AT E 4 [(0, .ref (e_q E 30)), (1, .int y1_4), (2, .int y2_4)] [] σ := by
    intro n4
    induction n4 with
    | zero => intro y1_4 y2_4 hm; exact absurd hm (Nat.not_lt_zero _)
    | succ n4 ih4 =>
      intro y1_4 y2_4 hm4 b1_4 b2_4 e0_4
      refine at_iload_n C 2 dX7_olds_4 rfl ?_
      refine at_aload_n C 0 dX7_olds_5 rfl ?_
      refine gf_X7_87 C dX7_olds_6 ?_
      refine at_icmp_ge C 32 dX7_olds_9 (by decide) (fun c106 => ?_) (fun c106 => ?_)
      · refine at_iload_n C 1 dX7_olds_32 rfl ?_
        exact hR _ _ _ _ dX7_olds_33 ⟨rfl, (show iv 0 1023 y1_4 from b1_4), (ol_x e0_4 c106)⟩
      · have f107 : iv 0 9 y2_4 := (iv_ltl b2_4 (show iv 0 10 (ac_gi σ 15) from hI.1 15) (Int32.not_le.mp c106))
        have f108 : iv 1 10 (ac_gi σ 15) := (iv_ltr b2_4 (show iv 0 10 (ac_gi σ 15) from hI.1 15) (Int32.not_le.mp c106))
        refine at_iload_n C 1 dX7_olds_12 rfl ?_
        refine at_aload_n C 0 dX7_olds_13 rfl ?_
        refine gf_X7_33 C dX7_olds_14 ?_
        refine at_iload_n C 2 dX7_olds_17 rfl ?_
        refine at_zald C (c := 36) rfl (iv_in (n := 10) f107 (by decide) (by decide)) dX7_olds_18 ?_
        refine at_Si C (As := [.int (ac_ga σ 36 (y2_4).toNatClampNeg)]) (st := [.int y1_4]) (ct_X7_one σ (ac_ga σ 36 (y2_4).toNatClampNeg) hI) mb_X7_one ml_X7_124 rfl (by decide) rfl (Nat.le_of_ble_eq_true rfl) dX7_olds_19 ?_
        rintro _ _ (⟨c109, rfl, rfl⟩ | ⟨c111, rfl, rfl⟩)
        · show AT E 22 [(0, .ref (e_q E 30)), (1, .int y1_4), (2, .int y2_4)] [.int (0 : Int32), .int y1_4] σ
          refine at_iload_n C 2 dX7_olds_22 rfl ?_
          refine at_ishl C dX7_olds_23 ?_
          refine at_ior C dX7_olds_24 ?_
          refine at_istore_n C (lv' := [(1, .int (y1_4 ||| ((0 : Int32) <<< (y2_4 &&& 31)))), (0, .ref (e_q E 30)), (2, .int y2_4)]) dX7_olds_25 hn1 rfl ?_
          refine at_iinc C (v := (y2_4 + (1 : Int32))) (lv' := [(2, .int (y2_4 + (1 : Int32))), (1, .int (y1_4 ||| ((0 : Int32) <<< (y2_4 &&& 31)))), (0, .ref (e_q E 30))]) 2 dX7_olds_26 rfl rfl hn2 rfl ?_
          refine at_goto C 4 dX7_olds_29 (by decide) ?_
          exact at_sub [2, 1, 0] rfl (ih4 (y1_4 ||| ((0 : Int32) <<< (y2_4 &&& 31))) (y2_4 + (1 : Int32)) (mz_up hm4 (ac_ti1 f107 (iv_c (c := 1) (x := (1 : Int32)) (by decide)) (by decide) (by decide) (by decide)) (by decide) (iv_wk (iv_add f107 (iv_c (c := 1) (x := (1 : Int32)) (by decide)) (by decide) (by decide)) (by decide) (by decide) : iv 0 10 (y2_4 + (1 : Int32))).2) (show iv 0 1023 (y1_4 ||| ((0 : Int32) <<< (y2_4 &&& 31))) from (iv_or 10 b1_4 (iv_shl0 _) (by decide) (by decide) (by decide))) (iv_wk (iv_add f107 (iv_c (c := 1) (x := (1 : Int32)) (by decide)) (by decide) (by decide)) (by decide) (by decide) : iv 0 10 (y2_4 + (1 : Int32))) (ol_z (iv_wk f107 (by decide) (by decide) : iv 0 9 y2_4) e0_4 (Int32.not_le.mp c106) c109))
        · show AT E 22 [(0, .ref (e_q E 30)), (1, .int y1_4), (2, .int y2_4)] [.int (1 : Int32), .int y1_4] σ
          refine at_iload_n C 2 dX7_olds_22 rfl ?_
          refine at_ishl C dX7_olds_23 ?_
          refine at_ior C dX7_olds_24 ?_
          refine at_istore_n C (lv' := [(1, .int (y1_4 ||| ((1 : Int32) <<< (y2_4 &&& 31)))), (0, .ref (e_q E 30)), (2, .int y2_4)]) dX7_olds_25 hn1 rfl ?_
          refine at_iinc C (v := (y2_4 + (1 : Int32))) (lv' := [(2, .int (y2_4 + (1 : Int32))), (1, .int (y1_4 ||| ((1 : Int32) <<< (y2_4 &&& 31)))), (0, .ref (e_q E 30))]) 2 dX7_olds_26 rfl rfl hn2 rfl ?_
          refine at_goto C 4 dX7_olds_29 (by decide) ?_
          exact at_sub [2, 1, 0] rfl (ih4 (y1_4 ||| ((1 : Int32) <<< (y2_4 &&& 31))) (y2_4 + (1 : Int32)) (mz_up hm4 (ac_ti1 f107 (iv_c (c := 1) (x := (1 : Int32)) (by decide)) (by decide) (by decide) (by decide)) (by decide) (iv_wk (iv_add f107 (iv_c (c := 1) (x := (1 : Int32)) (by decide)) (by decide) (by decide)) (by decide) (by decide) : iv 0 10 (y2_4 + (1 : Int32))).2) (show iv 0 1023 (y1_4 ||| ((1 : Int32) <<< (y2_4 &&& 31))) from (iv_or 10 b1_4 (iv_wk (c := 0) (iv_shl1 (a := 0) (b := 9) f107 (by decide)) (by decide) (Int.le_refl _)) (by decide) (by decide) (by decide))) (iv_wk (iv_add f107 (iv_c (c := 1) (x := (1 : Int32)) (by decide)) (by decide) (by decide)) (by decide) (by decide) : iv 0 10 (y2_4 + (1 : Int32))) (ol_o (iv_wk f107 (by decide) (by decide) : iv 0 9 y2_4) e0_4 (Int32.not_le.mp c106) c111))
  refine at_iconst C (0 : Int32) dX7_olds_0 (by decide) ?_
  refine at_istore_n C (lv' := [(1, .int (0 : Int32)), (0, .ref (e_q E 30))]) dX7_olds_1 hn1 rfl ?_
  refine at_iconst C (0 : Int32) dX7_olds_2 (by decide) ?_
  refine at_istore_n C (lv' := [(2, .int (0 : Int32)), (1, .int (0 : Int32)), (0, .ref (e_q E 30))]) dX7_olds_3 hn2 rfl ?_
  exact at_sub [2, 1, 0] rfl (K4 _ (0 : Int32) (0 : Int32) (Nat.lt_succ_self _) (iv_wk (iv_c (c := 0) (x := (0 : Int32)) (by decide)) (by decide) (by decide) : iv 0 1023 (0 : Int32)) (iv_wk (iv_c (c := 0) (x := (0 : Int32)) (by decide)) (by decide) (by decide) : iv 0 10 (0 : Int32)) (ol_0 (show iv 0 10 (ac_gi σ 15) from (show iv 0 10 (ac_gi σ 15) from hI.1 15))))
