set_option maxHeartbeats 4000000 in
set_option maxRecDepth 100000 in
theorem ct_X1_priceIn (σ : SS) (x1 : Int32) (hI : Inv σ) : ConI yX1_priceIn cX1_priceIn 2 (some .int) 1 (some 4) [.int x1] σ (fun r σ' => σ = σ' ∧ iv (-2147483648) 2147483647 r) := by
  refine conI_of (by decide) (fun q => Nat.le_of_ble_eq_true rfl) (fun E C en hR => ?_)
  refine at_iload_n C 1 dX1_priceIn_0 rfl ?_
  refine at_if_gt C 11 dX1_priceIn_1 (by decide) (fun c22 => ?_) (fun c22 => ?_)
  · have f23 : iv 1 2147483647 x1 := (iv_ltr (iv_c (c := 0) (x := (0 : Int32)) (by decide)) (iv_any x1) c22)
    refine at_iconst C (0 : Int32) dX1_priceIn_11 (by decide) ?_
    refine at_aload_n C 0 dX1_priceIn_12 rfl ?_
    refine gf_X1_15 C dX1_priceIn_13 ?_
    refine at_iload_n C 1 dX1_priceIn_16 rfl ?_
    refine at_aload_n C 0 dX1_priceIn_17 rfl ?_
    refine gf_X1_18 C dX1_priceIn_18 ?_
    refine at_imul C dX1_priceIn_21 ?_
    refine at_isub C dX1_priceIn_22 ?_
    refine at_mmax C ml_X1_88 (by decide) (Nat.le_of_ble_eq_true rfl) dX1_priceIn_23 ?_
    exact hR _ _ _ _ dX1_priceIn_26 ⟨rfl, (iv_wk (iv_max (iv_c (c := 0) (x := (0 : Int32)) (by decide)) (iv_any ((ac_gi σ 5) - (x1 * (ac_gi σ 6))))) (by decide) (by decide) : iv (-2147483648) 2147483647 (ac_max (0 : Int32) ((ac_gi σ 5) - (x1 * (ac_gi σ 6)))))⟩
  · have f24 : iv (-2147483648) 0 x1 := (iv_lel (iv_any x1) (iv_c (c := 0) (x := (0 : Int32)) (by decide)) (Int32.not_lt.mp c22))
    refine at_aload_n C 0 dX1_priceIn_4 rfl ?_
    refine gf_X1_15 C dX1_priceIn_5 ?_
    refine at_goto C 26 dX1_priceIn_8 (by decide) ?_
    exact hR _ _ _ _ dX1_priceIn_26 ⟨rfl, (iv_wk (show iv 1 1000 (ac_gi σ 5) from hI.1 5) (by decide) (by decide) : iv (-2147483648) 2147483647 (ac_gi σ 5))⟩
set_option maxHeartbeats 4000000 in
set_option maxRecDepth 100000 in
theorem ct_X1_isOld (σ : SS) (x1 : Int32) (hI : Inv σ) : ConI yX1_isOld cX1_isOld 2 (some .boolean) 1 (some 4) [.int x1] σ (fun r σ' => σ = σ' ∧ ((r = 1 ∧ ((0 ≤ (x1).toInt ∧ (x1).toInt < (ac_gi σ 0).toInt) ∧ ¬ ((ac_gi σ 4 >>> (x1 &&& 31)) &&& 1) = 0)) ∨ (r = 0 ∧ ¬ ((0 ≤ (x1).toInt ∧ (x1).toInt < (ac_gi σ 0).toInt) ∧ ¬ ((ac_gi σ 4 >>> (x1 &&& 31)) &&& 1) = 0)))) := by
  refine conZ_of (by decide) (fun q => Nat.le_of_ble_eq_true rfl) (fun r u h => by rcases h.2 with h | h; exact Or.inr h.1; exact Or.inl h.1) (fun E C en hR => ?_)
  refine at_aload_n C 0 dX1_isOld_0 rfl ?_
  refine gf_X1_43 C dX1_isOld_1 ?_
  refine at_iload_n C 1 dX1_isOld_4 rfl ?_
  refine at_Vi C (As := [.int x1]) (st := []) (b := 1) (ci := 0) (ct_X0_isMast σ x1) mb_X0_isMast ml_X1_51 rfl rfl rfl (by decide) rfl (Nat.le_of_ble_eq_true rfl) dX1_isOld_5 ?_
  rintro _ _ ⟨rfl, ⟨rfl, c64⟩ | ⟨rfl, c64⟩⟩
  · have f66 : iv 0 9 x1 := (iv_of3 c64 (show iv 0 10 (ac_gi σ 0) from hI.1 0))
    refine at_if_eq C 26 dX1_isOld_8 (by decide) (fun c67 => absurd c67 (iv_xeq (iv_c (c := 1) (x := (1 : Int32)) (by decide)) (iv_c (c := 0) (x := (0 : Int32)) (by decide)) (by decide))) (fun c67 => ?_)
    refine at_aload_n C 0 dX1_isOld_11 rfl ?_
    refine gf_X1_9 C dX1_isOld_12 ?_
    refine at_iload_n C 1 dX1_isOld_15 rfl ?_
    refine at_Ni C (As := [.int (ac_gi σ 4), .int x1]) (st := []) (ct_X6_has σ (ac_gi σ 4) x1) mb_X6_has ml_X1_57 rfl (by decide) rfl (Nat.le_of_ble_eq_true rfl) dX1_isOld_16 ?_
    rintro _ _ ⟨rfl, ⟨rfl, c68⟩ | ⟨rfl, c68⟩⟩
    · refine at_if_eq C 26 dX1_isOld_19 (by decide) (fun c70 => absurd c70 (iv_xeq (iv_c (c := 1) (x := (1 : Int32)) (by decide)) (iv_c (c := 0) (x := (0 : Int32)) (by decide)) (by decide))) (fun c70 => ?_)
      refine at_iconst C (1 : Int32) dX1_isOld_22 (by decide) ?_
      refine at_goto C 27 dX1_isOld_23 (by decide) ?_
      exact hR _ _ _ _ dX1_isOld_27 ⟨rfl, Or.inl ⟨rfl, ⟨c64, c68⟩⟩⟩
    · refine at_if_eq C 26 dX1_isOld_19 (by decide) (fun c71 => ?_) (fun c71 => absurd (iv_xne (iv_c (c := 0) (x := (0 : Int32)) (by decide)) (iv_c (c := 0) (x := (0 : Int32)) (by decide))) c71)
      refine at_iconst C (0 : Int32) dX1_isOld_26 (by decide) ?_
      exact hR _ _ _ _ dX1_isOld_27 ⟨rfl, Or.inr ⟨rfl, (fun z => c68 z.2)⟩⟩
  · refine at_if_eq C 26 dX1_isOld_8 (by decide) (fun c72 => ?_) (fun c72 => absurd (iv_xne (iv_c (c := 0) (x := (0 : Int32)) (by decide)) (iv_c (c := 0) (x := (0 : Int32)) (by decide))) c72)
    refine at_iconst C (0 : Int32) dX1_isOld_26 (by decide) ?_
    exact hR _ _ _ _ dX1_isOld_27 ⟨rfl, Or.inr ⟨rfl, (fun z => c64 z.1)⟩⟩
set_option maxHeartbeats 4000000 in
set_option maxRecDepth 100000 in
theorem ct_X1_offer (σ : SS) (x1 : Int32) (x2 : Int32) (x3 : Int32) (hI : Inv σ) (g1 : iv 0 9 x1) : ConV yX1_offer cX1_offer 5 none 15 (some 4) [.int x1, .int x2, .int x3] σ (fun σ' => Gd σ σ') := by
  refine conV_of (by decide) (fun q => Nat.le_of_ble_eq_true rfl) (fun E C en hR => ?_)
  have hn4 : 4 < e_n E := by rw [en]; decide
  have hG0 : Gd σ σ := Gd.rf hI
  have K85 : ∀ (s85 : SS), Gd σ s85 → AT E 85 [(0, .ref (e_q E 4)), (1, .int x1), (2, .int x2)] [] s85 := by
    intro s85 hG_85
    refine at_aload_n C 0 dX1_offer_85 rfl ?_
    refine at_dup C dX1_offer_86 rfl ?_
    refine gf_X1_34 C dX1_offer_87 ?_
    refine at_iconst C (1 : Int32) dX1_offer_90 (by decide) ?_
    refine at_iload_n C 1 dX1_offer_91 rfl ?_
    refine at_ishl C dX1_offer_92 ?_
    refine at_ior C dX1_offer_93 ?_
    refine pf_X1_34 C dX1_offer_94 ?_
    have hG185 := Gd.si (k := 7) hG_85 rfl (show iv 0 1023 ((ac_gi s85 7) ||| ((1 : Int32) <<< (x1 &&& 31))) from (iv_or 10 (show iv 0 1023 (ac_gi s85 7) from hG_85.1.1 7) (iv_wk (c := 0) (iv_shl1 (a := 0) (b := 9) g1 (by decide)) (by decide) (Int.le_refl _)) (by decide) (by decide) (by decide)))
    refine at_aload_n C 0 dX1_offer_97 rfl ?_
    refine gf_X1_28 C dX1_offer_98 ?_
    refine at_iload_n C 1 dX1_offer_101 rfl ?_
    refine at_iconst C (0 : Int32) dX1_offer_102 (by decide) ?_
    refine at_iast C (c := 19) rfl (fun f => ac_ast_19 _ _ _ _ f) (iv_in (n := 10) g1 (by decide) (by decide)) dX1_offer_103 ?_
    have hG186 := Gd.sa (c := 19) (i := (x1).toNatClampNeg) hG185 rfl (iv_wk (iv_c (c := 0) (x := (0 : Int32)) (by decide)) (by decide) (by decide) : iv (-2147483648) 2147483647 (0 : Int32))
    refine at_aload_n C 0 dX1_offer_104 rfl ?_
    refine gf_X1_31 C dX1_offer_105 ?_
    refine at_iload_n C 1 dX1_offer_108 rfl ?_
    refine at_iload_n C 2 dX1_offer_109 rfl ?_
    refine at_iast C (c := 20) rfl (fun f => ac_ast_20 _ _ _ _ f) (iv_in (n := 10) g1 (by decide) (by decide)) dX1_offer_110 ?_
    have hG187 := Gd.sa (c := 20) (i := (x1).toNatClampNeg) hG186 rfl (show iv (-2147483648) 2147483647 x2 from (iv_any x2))
    exact hR _ _ _ dX1_offer_111 hG187
  refine at_aload_n C 0 dX1_offer_0 rfl ?_
  refine at_iload_n C 2 dX1_offer_1 rfl ?_
  refine at_Vi C (As := [.int x2]) (st := []) (b := 4) (ci := 1) (ct_X1_priceIn σ x2 hI) mb_X1_priceIn ml_X1_79 rfl rfl rfl (by decide) rfl (Nat.le_of_ble_eq_true rfl) dX1_offer_2 ?_
  rintro r188 _ ⟨rfl, f189⟩
  refine at_istore C (lv' := [(4, .int r188), (0, .ref (e_q E 4)), (1, .int x1), (2, .int x2), (3, .int x3)]) dX1_offer_5 hn4 rfl ?_
  refine at_aload_n C 1 dX1_offer_7 rfl ?_
  refine gf_X1_47 C dX1_offer_8 ?_
  refine at_aload_n C 1 dX1_offer_11 rfl ?_
  refine gf_X1_34 C dX1_offer_12 ?_
  refine at_iconst C (1 : Int32) dX1_offer_15 (by decide) ?_
  refine at_iload_n C 2 dX1_offer_16 rfl ?_
  refine at_ishl C dX1_offer_17 ?_
  refine at_ior C dX1_offer_18 ?_
  refine at_Vi C (As := [.int ((ac_gi σ 7) ||| ((1 : Int32) <<< (x1 &&& 31)))]) (st := []) (b := 2) (ci := 4) (ct_X4_finds σ ((ac_gi σ 7) ||| ((1 : Int32) <<< (x1 &&& 31))) hI) mb_X4_finds ml_X1_83 rfl rfl rfl (by decide) rfl (Nat.le_of_ble_eq_true rfl) dX1_offer_19 ?_
  rintro _ u192 ⟨hg191, rfl | rfl⟩
  · have hG194 := hG0.tr hg191
    refine at_if_ne C 67 dX1_offer_22 (by decide) (fun c195 => absurd (iv_xne (iv_c (c := 0) (x := (0 : Int32)) (by decide)) (iv_c (c := 0) (x := (0 : Int32)) (by decide))) c195) (fun c195 => ?_)
    refine at_aload_n C 1 dX1_offer_25 rfl ?_
    refine at_dup C dX1_offer_26 rfl ?_
    refine gf_X1_37 C dX1_offer_27 ?_
    refine at_iconst C (1 : Int32) dX1_offer_30 (by decide) ?_
    refine at_iload_n C 2 dX1_offer_31 rfl ?_
    refine at_ishl C dX1_offer_32 ?_
    refine at_ior C dX1_offer_33 ?_
    refine pf_X1_37 C dX1_offer_34 ?_
    have hG196 := Gd.si (k := 8) hG194 rfl (show iv 0 1023 ((ac_gi u192 8) ||| ((1 : Int32) <<< (x1 &&& 31))) from (iv_or 10 (show iv 0 1023 (ac_gi u192 8) from hg191.1.1 8) (iv_wk (c := 0) (iv_shl1 (a := 0) (b := 9) g1 (by decide)) (by decide) (Int.le_refl _)) (by decide) (by decide) (by decide)))
    refine at_aload_n C 1 dX1_offer_37 rfl ?_
    refine gf_X1_28 C dX1_offer_38 ?_
    refine at_iload_n C 2 dX1_offer_41 rfl ?_
    refine at_aload_n C 1 dX1_offer_42 rfl ?_
    refine at_iload_n C 3 dX1_offer_43 rfl ?_
    refine at_iconst C (1 : Int32) dX1_offer_44 (by decide) ?_
    refine at_isub C dX1_offer_45 ?_
    refine at_Vi C (As := [.int (x2 - (1 : Int32))]) (st := [.int x1, .ref (e_q E 19)]) (b := 4) (ci := 1) (ct_X1_priceIn (ac_si u192 8 ((ac_gi u192 8) ||| ((1 : Int32) <<< (x1 &&& 31)))) (x2 - (1 : Int32)) hG196.1) mb_X1_priceIn ml_X1_79 rfl rfl rfl (by decide) rfl (Nat.le_of_ble_eq_true rfl) dX1_offer_46 ?_
    rintro r197 _ ⟨rfl, f198⟩
    refine at_aload_n C 1 dX1_offer_49 rfl ?_
    refine gf_X1_25 C dX1_offer_50 ?_
    refine at_iload_n C 2 dX1_offer_53 rfl ?_
    refine at_iald C (c := 18) rfl (iv_in (n := 10) g1 (by decide) (by decide)) dX1_offer_54 ?_
    show AT E 55 [(4, .int r188), (0, .ref (e_q E 4)), (1, .int x1), (2, .int x2), (3, .int x3)] [.int (ac_ga u192 18 (x1).toNatClampNeg), .int r197, .int x1, .ref (e_q E 19)] (ac_si u192 8 ((ac_gi u192 8) ||| ((1 : Int32) <<< (x1 &&& 31))))
    refine at_imul C dX1_offer_55 ?_
    refine at_iast C (c := 19) rfl (fun f => ac_ast_19 _ _ _ _ f) (iv_in (n := 10) g1 (by decide) (by decide)) dX1_offer_56 ?_
    have hG199 := Gd.sa (c := 19) (i := (x1).toNatClampNeg) hG196 rfl (show iv (-2147483648) 2147483647 (r197 * (ac_ga u192 18 (x1).toNatClampNeg)) from (iv_any (r197 * (ac_ga u192 18 (x1).toNatClampNeg))))
    refine at_aload_n C 1 dX1_offer_57 rfl ?_
    refine gf_X1_31 C dX1_offer_58 ?_
    refine at_iload_n C 2 dX1_offer_61 rfl ?_
    refine at_iload_n C 3 dX1_offer_62 rfl ?_
    refine at_iast C (c := 20) rfl (fun f => ac_ast_20 _ _ _ _ f) (iv_in (n := 10) g1 (by decide) (by decide)) dX1_offer_63 ?_
    have hG200 := Gd.sa (c := 20) (i := (x1).toNatClampNeg) hG199 rfl (show iv (-2147483648) 2147483647 x2 from (iv_any x2))
    refine at_goto C 111 dX1_offer_64 (by decide) ?_
    exact hR _ _ _ dX1_offer_111 hG200
  · have hG201 := hG0.tr hg191
    refine at_if_ne C 67 dX1_offer_22 (by decide) (fun c202 => ?_) (fun c202 => absurd c202 (iv_xeq (iv_c (c := 1) (x := (1 : Int32)) (by decide)) (iv_c (c := 0) (x := (0 : Int32)) (by decide)) (by decide)))
    refine at_iload C 0 dX1_offer_67 rfl ?_
    refine at_if_eq C 85 dX1_offer_69 (by decide) (fun c203 => ?_) (fun c203 => ?_)
    · have f204 : iv 0 0 r188 := (iv_eql (iv_c (c := 0) (x := (0 : Int32)) (by decide)) c203)
      exact at_sub [1, 2, 3] rfl (K85 u192 hG201)
    · refine at_iload C 0 dX1_offer_72 rfl ?_
      refine at_aload_n C 1 dX1_offer_74 rfl ?_
      refine gf_X1_25 C dX1_offer_75 ?_
      refine at_iload_n C 2 dX1_offer_78 rfl ?_
      refine at_iald C (c := 18) rfl (iv_in (n := 10) g1 (by decide) (by decide)) dX1_offer_79 ?_
      refine at_imul C dX1_offer_80 ?_
      refine at_iload_n C 4 dX1_offer_81 rfl ?_
      refine at_icmp_ge C 111 dX1_offer_82 (by decide) (fun c205 => ?_) (fun c205 => ?_)
      · exact hR _ _ _ dX1_offer_111 hG201
      · have f206 : iv (-2147483648) 2147483646 (r188 * (ac_ga u192 18 (x1).toNatClampNeg)) := (iv_ltl (iv_any (r188 * (ac_ga u192 18 (x1).toNatClampNeg))) (iv_any x3) (Int32.not_le.mp c205))
        have f207 : iv (-2147483647) 2147483647 x3 := (iv_ltr (iv_any (r188 * (ac_ga u192 18 (x1).toNatClampNeg))) (iv_any x3) (Int32.not_le.mp c205))
        exact at_sub [1, 2, 3] rfl (K85 u192 hG201)
set_option maxHeartbeats 4000000 in
set_option maxRecDepth 100000 in
theorem ct_X1_letFall (σ : SS) (x1 : Int32) (x2 : Int32) (hI : Inv σ) : ConV yX1_letFall cX1_letFall 5 none 16 (some 4) [.int x1, .int x2] σ (fun σ' => Gd σ σ') := by
  refine conV_of (by decide) (fun q => Nat.le_of_ble_eq_true rfl) (fun E C en hR => ?_)
  have hn3 : 3 < e_n E := by rw [en]; decide
  have hn4 : 4 < e_n E := by rw [en]; decide
  have hG0 : Gd σ σ := Gd.rf hI
  have K17 : ∀ (n17 : Nat) (y3_17 : Int32) (s17 : SS), (51 - (y3_17).toInt).toNat < n17 → iv 0 51 y3_17 → Gd σ s17 → AT E 17 [(0, .ref (e_q E 4)), (1, .int x1), (2, .int x2), (3, .int y3_17)] [] s17 := by
    intro n17
    induction n17 with
    | zero => intro y3_17 s17 hm; exact absurd hm (Nat.not_lt_zero _)
    | succ n17 ih17 =>
      intro y3_17 s17 hm17 b3_17 hG_17
      have K42 : ∀ (n42 : Nat) (y4_42 : Int32) (s42 : SS), (10 - (y4_42).toInt).toNat < n42 → iv 0 50 y3_17 → iv 0 10 y4_42 → Gd σ s42 → AT E 42 [(0, .ref (e_q E 4)), (1, .int x1), (2, .int x2), (3, .int y3_17), (4, .int y4_42)] [] s42 := by
        intro n42
        induction n42 with
        | zero => intro y4_42 s42 hm; exact absurd hm (Nat.not_lt_zero _)
        | succ n42 ih42 =>
          intro y4_42 s42 hm42 b3_42 b4_42 hG_42
          refine at_iload C 4 dX1_letFall_42 rfl ?_
          refine at_aload_n C 0 dX1_letFall_44 rfl ?_
          refine gf_X1_43 C dX1_letFall_45 ?_
          refine gf_X1_61 C dX1_letFall_48 ?_
          refine at_icmp_ge C 108 dX1_letFall_51 (by decide) (fun c498 => ?_) (fun c498 => ?_)
          · refine at_aload_n C 0 dX1_letFall_108 rfl ?_
            refine at_dup C dX1_letFall_109 rfl ?_
            refine gf_X1_40 C dX1_letFall_110 ?_
            refine at_iconst C (1 : Int32) dX1_letFall_113 (by decide) ?_
            refine at_iadd C dX1_letFall_114 ?_
            refine pf_X1_40 C dX1_letFall_115 ?_
            have hG499 := Gd.si (k := 9) hG_42 rfl (show iv (-2147483648) 2147483647 ((ac_gi s42 9) + (1 : Int32)) from (iv_any ((ac_gi s42 9) + (1 : Int32))))
            refine at_iinc C (v := (y3_17 + (1 : Int32))) (lv' := [(3, .int (y3_17 + (1 : Int32))), (0, .ref (e_q E 4)), (1, .int x1), (2, .int x2), (4, .int y4_42)]) 3 dX1_letFall_118 rfl rfl hn3 rfl ?_
            refine at_goto C 17 dX1_letFall_121 (by decide) ?_
            exact at_sub [1, 2, 3, 0] rfl (ih17 (y3_17 + (1 : Int32)) (ac_si s42 9 ((ac_gi s42 9) + (1 : Int32))) (mz_up hm17 (ac_ti1 b3_42 (iv_c (c := 1) (x := (1 : Int32)) (by decide)) (by decide) (by decide) (by decide)) (by decide) (iv_wk (iv_add b3_42 (iv_c (c := 1) (x := (1 : Int32)) (by decide)) (by decide) (by decide)) (by decide) (by decide) : iv 0 51 (y3_17 + (1 : Int32))).2) (iv_wk (iv_add b3_42 (iv_c (c := 1) (x := (1 : Int32)) (by decide)) (by decide) (by decide)) (by decide) (by decide) : iv 0 51 (y3_17 + (1 : Int32))) hG499)
          · have f500 : iv 0 9 y4_42 := (iv_ltl b4_42 (show iv 0 10 (ac_gi s42 0) from hG_42.1.1 0) (Int32.not_le.mp c498))
            have f501 : iv 1 10 (ac_gi s42 0) := (iv_ltr b4_42 (show iv 0 10 (ac_gi s42 0) from hG_42.1.1 0) (Int32.not_le.mp c498))
            refine at_aload_n C 0 dX1_letFall_54 rfl ?_
            refine gf_X1_9 C dX1_letFall_55 ?_
            refine at_aload_n C 0 dX1_letFall_58 rfl ?_
            refine gf_X1_34 C dX1_letFall_59 ?_
            refine at_aload_n C 0 dX1_letFall_62 rfl ?_
            refine gf_X1_37 C dX1_letFall_63 ?_
            refine at_ior C dX1_letFall_66 ?_
            refine at_iconst C (-1 : Int32) dX1_letFall_67 (by decide) ?_
            refine at_ixor C dX1_letFall_68 ?_
            refine at_iand C dX1_letFall_69 ?_
            refine at_iload C 4 dX1_letFall_70 rfl ?_
            refine at_Ni C (As := [.int ((ac_gi s42 4) &&& (((ac_gi s42 7) ||| (ac_gi s42 8)) ^^^ (-1 : Int32))), .int y4_42]) (st := []) (ct_X6_has s42 ((ac_gi s42 4) &&& (((ac_gi s42 7) ||| (ac_gi s42 8)) ^^^ (-1 : Int32))) y4_42) mb_X6_has ml_X1_57 rfl (by decide) rfl (Nat.le_of_ble_eq_true rfl) dX1_letFall_72 ?_
            rintro _ _ ⟨rfl, ⟨rfl, c502⟩ | ⟨rfl, c502⟩⟩
            · refine at_if_eq C 102 dX1_letFall_75 (by decide) (fun c504 => absurd c504 (iv_xeq (iv_c (c := 1) (x := (1 : Int32)) (by decide)) (iv_c (c := 0) (x := (0 : Int32)) (by decide)) (by decide))) (fun c504 => ?_)
              refine at_aload_n C 0 dX1_letFall_78 rfl ?_
              refine at_iload C 4 dX1_letFall_79 rfl ?_
              refine at_iload_n C 3 dX1_letFall_81 rfl ?_
              refine at_iload C 4 dX1_letFall_82 rfl ?_
              refine at_iload_n C 1 dX1_letFall_84 rfl ?_
              refine at_icmp_ne C 92 dX1_letFall_85 (by decide) (fun c505 => ?_) (fun c505 => ?_)
              · refine at_aload_n C 0 dX1_letFall_92 rfl ?_
                refine gf_X1_21 C dX1_letFall_93 ?_
                refine at_iload C 4 dX1_letFall_96 rfl ?_
                refine at_iald C (c := 17) rfl (iv_in (n := 10) f500 (by decide) (by decide)) dX1_letFall_98 ?_
                refine at_Vv C (As := [.int y4_42, .int y3_17, .int (ac_ga s42 17 (y4_42).toNatClampNeg)]) (st := []) (b := 4) (ci := 1) (ct_X1_offer s42 y4_42 y3_17 (ac_ga s42 17 (y4_42).toNatClampNeg) hG_42.1 (show iv 0 9 y4_42 from f500)) mb_X1_offer ml_X1_64 rfl rfl rfl (by decide) rfl (Nat.le_of_ble_eq_true rfl) dX1_letFall_99 ?_
                rintro u506 hg507
                have hG508 := hG_42.tr hg507
                refine at_iinc C (v := (y4_42 + (1 : Int32))) (lv' := [(4, .int (y4_42 + (1 : Int32))), (0, .ref (e_q E 4)), (1, .int x1), (2, .int x2), (3, .int y3_17)]) 4 dX1_letFall_102 rfl rfl hn4 rfl ?_
                refine at_goto C 42 dX1_letFall_105 (by decide) ?_
                exact at_sub [1, 2, 3, 4, 0] rfl (ih42 (y4_42 + (1 : Int32)) u506 (mz_up hm42 (ac_ti1 f500 (iv_c (c := 1) (x := (1 : Int32)) (by decide)) (by decide) (by decide) (by decide)) (by decide) (iv_wk (iv_add f500 (iv_c (c := 1) (x := (1 : Int32)) (by decide)) (by decide) (by decide)) (by decide) (by decide) : iv 0 10 (y4_42 + (1 : Int32))).2) (show iv 0 50 y3_17 from b3_42) (iv_wk (iv_add f500 (iv_c (c := 1) (x := (1 : Int32)) (by decide)) (by decide) (by decide)) (by decide) (by decide) : iv 0 10 (y4_42 + (1 : Int32))) hG508)
              · have f509 : iv 0 9 x1 := (iv_eqr f500 c505)
                refine at_iload_n C 2 dX1_letFall_88 rfl ?_
                refine at_goto C 99 dX1_letFall_89 (by decide) ?_
                refine at_Vv C (As := [.int y4_42, .int y3_17, .int x2]) (st := []) (b := 4) (ci := 1) (ct_X1_offer s42 y4_42 y3_17 x2 hG_42.1 (show iv 0 9 y4_42 from f500)) mb_X1_offer ml_X1_64 rfl rfl rfl (by decide) rfl (Nat.le_of_ble_eq_true rfl) dX1_letFall_99 ?_
                rintro u510 hg511
                have hG512 := hG_42.tr hg511
                refine at_iinc C (v := (y4_42 + (1 : Int32))) (lv' := [(4, .int (y4_42 + (1 : Int32))), (0, .ref (e_q E 4)), (1, .int x1), (2, .int x2), (3, .int y3_17)]) 4 dX1_letFall_102 rfl rfl hn4 rfl ?_
                refine at_goto C 42 dX1_letFall_105 (by decide) ?_
                exact at_sub [1, 2, 3, 4, 0] rfl (ih42 (y4_42 + (1 : Int32)) u510 (mz_up hm42 (ac_ti1 f500 (iv_c (c := 1) (x := (1 : Int32)) (by decide)) (by decide) (by decide) (by decide)) (by decide) (iv_wk (iv_add f500 (iv_c (c := 1) (x := (1 : Int32)) (by decide)) (by decide) (by decide)) (by decide) (by decide) : iv 0 10 (y4_42 + (1 : Int32))).2) (show iv 0 50 y3_17 from b3_42) (iv_wk (iv_add f500 (iv_c (c := 1) (x := (1 : Int32)) (by decide)) (by decide) (by decide)) (by decide) (by decide) : iv 0 10 (y4_42 + (1 : Int32))) hG512)
            · refine at_if_eq C 102 dX1_letFall_75 (by decide) (fun c513 => ?_) (fun c513 => absurd (iv_xne (iv_c (c := 0) (x := (0 : Int32)) (by decide)) (iv_c (c := 0) (x := (0 : Int32)) (by decide))) c513)
              refine at_iinc C (v := (y4_42 + (1 : Int32))) (lv' := [(4, .int (y4_42 + (1 : Int32))), (0, .ref (e_q E 4)), (1, .int x1), (2, .int x2), (3, .int y3_17)]) 4 dX1_letFall_102 rfl rfl hn4 rfl ?_
              refine at_goto C 42 dX1_letFall_105 (by decide) ?_
              exact at_sub [1, 2, 3, 4, 0] rfl (ih42 (y4_42 + (1 : Int32)) s42 (mz_up hm42 (ac_ti1 f500 (iv_c (c := 1) (x := (1 : Int32)) (by decide)) (by decide) (by decide) (by decide)) (by decide) (iv_wk (iv_add f500 (iv_c (c := 1) (x := (1 : Int32)) (by decide)) (by decide) (by decide)) (by decide) (by decide) : iv 0 10 (y4_42 + (1 : Int32))).2) (show iv 0 50 y3_17 from b3_42) (iv_wk (iv_add f500 (iv_c (c := 1) (x := (1 : Int32)) (by decide)) (by decide) (by decide)) (by decide) (by decide) : iv 0 10 (y4_42 + (1 : Int32))) hG_42)
      refine at_iload_n C 3 dX1_letFall_17 rfl ?_
      refine at_bipush C (50 : Int32) dX1_letFall_18 (by decide) ?_
      refine at_icmp_gt C 124 dX1_letFall_20 (by decide) (fun c514 => ?_) (fun c514 => ?_)
      · have f515 : iv 51 51 y3_17 := (iv_ltr (iv_c (c := 50) (x := (50 : Int32)) (by decide)) b3_17 c514)
        exact hR _ _ _ dX1_letFall_124 hG_17
      · have f516 : iv 0 50 y3_17 := (iv_lel b3_17 (iv_c (c := 50) (x := (50 : Int32)) (by decide)) (Int32.not_lt.mp c514))
        refine at_aload_n C 0 dX1_letFall_23 rfl ?_
        refine gf_X1_34 C dX1_letFall_24 ?_
        refine at_aload_n C 0 dX1_letFall_27 rfl ?_
        refine gf_X1_37 C dX1_letFall_28 ?_
        refine at_ior C dX1_letFall_31 ?_
        refine at_aload_n C 0 dX1_letFall_32 rfl ?_
        refine gf_X1_9 C dX1_letFall_33 ?_
        refine at_icmp_eq C 124 dX1_letFall_36 (by decide) (fun c517 => ?_) (fun c517 => ?_)
        · exact hR _ _ _ dX1_letFall_124 hG_17
        · refine at_iconst C (0 : Int32) dX1_letFall_39 (by decide) ?_
          refine at_istore C (lv' := [(4, .int (0 : Int32)), (0, .ref (e_q E 4)), (1, .int x1), (2, .int x2), (3, .int y3_17)]) dX1_letFall_40 hn4 rfl ?_
          exact at_sub [1, 2, 3, 4, 0] rfl (K42 _ (0 : Int32) s17 (Nat.lt_succ_self _) (show iv 0 50 y3_17 from f516) (iv_wk (iv_c (c := 0) (x := (0 : Int32)) (by decide)) (by decide) (by decide) : iv 0 10 (0 : Int32)) hG_17)
  refine at_aload_n C 0 dX1_letFall_0 rfl ?_
  refine at_iconst C (0 : Int32) dX1_letFall_1 (by decide) ?_
  refine pf_X1_34 C dX1_letFall_2 ?_
  have hG518 := Gd.si (k := 7) hG0 rfl (iv_wk (iv_c (c := 0) (x := (0 : Int32)) (by decide)) (by decide) (by decide) : iv 0 1023 (0 : Int32))
  refine at_aload_n C 0 dX1_letFall_5 rfl ?_
  refine at_iconst C (0 : Int32) dX1_letFall_6 (by decide) ?_
  refine pf_X1_37 C dX1_letFall_7 ?_
  have hG519 := Gd.si (k := 8) hG518 rfl (iv_wk (iv_c (c := 0) (x := (0 : Int32)) (by decide)) (by decide) (by decide) : iv 0 1023 (0 : Int32))
  refine at_aload_n C 0 dX1_letFall_10 rfl ?_
  refine at_iconst C (0 : Int32) dX1_letFall_11 (by decide) ?_
  refine pf_X1_40 C dX1_letFall_12 ?_
  have hG520 := Gd.si (k := 9) hG519 rfl (iv_wk (iv_c (c := 0) (x := (0 : Int32)) (by decide)) (by decide) (by decide) : iv (-2147483648) 2147483647 (0 : Int32))
  refine at_iconst C (0 : Int32) dX1_letFall_15 (by decide) ?_
  refine at_istore_n C (lv' := [(3, .int (0 : Int32)), (0, .ref (e_q E 4)), (1, .int x1), (2, .int x2)]) dX1_letFall_16 hn3 rfl ?_
  exact at_sub [1, 2, 3, 0] rfl (K17 _ (0 : Int32) (ac_si (ac_si (ac_si σ 7 (0 : Int32)) 8 (0 : Int32)) 9 (0 : Int32)) (Nat.lt_succ_self _) (iv_wk (iv_c (c := 0) (x := (0 : Int32)) (by decide)) (by decide) (by decide) : iv 0 51 (0 : Int32)) hG520)
set_option maxHeartbeats 4000000 in
set_option maxRecDepth 100000 in
theorem ct_X1_allPaid (σ : SS) (hI : Inv σ) : ConI yX1_allPaid cX1_allPaid 3 (some .int) 1 (some 4) [] σ (fun r σ' => σ = σ' ∧ iv (-2147483648) 2147483647 r) := by
  refine conI_of (by decide) (fun q => Nat.le_of_ble_eq_true rfl) (fun E C en hR => ?_)
  have hn1 : 1 < e_n E := by rw [en]; decide
  have hn2 : 2 < e_n E := by rw [en]; decide
  have K4 : ∀ (n4 : Nat) (y1_4 : Int32) (y2_4 : Int32), (10 - (y2_4).toInt).toNat < n4 → iv (-2147483648) 2147483647 y1_4 → iv 0 10 y2_4 → AT E 4 [(0, .ref (e_q E 4)), (1, .int y1_4), (2, .int y2_4)] [] σ := by
    intro n4
    induction n4 with
    | zero => intro y1_4 y2_4 hm; exact absurd hm (Nat.not_lt_zero _)
    | succ n4 ih4 =>
      intro y1_4 y2_4 hm4 b1_4 b2_4
      refine at_iload_n C 2 dX1_allPaid_4 rfl ?_
      refine at_aload_n C 0 dX1_allPaid_5 rfl ?_
      refine gf_X1_43 C dX1_allPaid_6 ?_
      refine gf_X1_61 C dX1_allPaid_9 ?_
      refine at_icmp_ge C 45 dX1_allPaid_12 (by decide) (fun c106 => ?_) (fun c106 => ?_)
      · refine at_iload_n C 1 dX1_allPaid_45 rfl ?_
        exact hR _ _ _ _ dX1_allPaid_46 ⟨rfl, (show iv (-2147483648) 2147483647 y1_4 from b1_4)⟩
      · have f107 : iv 0 9 y2_4 := (iv_ltl b2_4 (show iv 0 10 (ac_gi σ 0) from hI.1 0) (Int32.not_le.mp c106))
        have f108 : iv 1 10 (ac_gi σ 0) := (iv_ltr b2_4 (show iv 0 10 (ac_gi σ 0) from hI.1 0) (Int32.not_le.mp c106))
        refine at_iload_n C 1 dX1_allPaid_15 rfl ?_
        refine at_aload_n C 0 dX1_allPaid_16 rfl ?_
        refine gf_X1_37 C dX1_allPaid_17 ?_
        refine at_iload_n C 2 dX1_allPaid_20 rfl ?_
        refine at_Ni C (As := [.int (ac_gi σ 8), .int y2_4]) (st := [.int y1_4]) (ct_X6_has σ (ac_gi σ 8) y2_4) mb_X6_has ml_X1_57 rfl (by decide) rfl (Nat.le_of_ble_eq_true rfl) dX1_allPaid_21 ?_
        rintro _ _ ⟨rfl, ⟨rfl, c109⟩ | ⟨rfl, c109⟩⟩
        · refine at_if_eq C 36 dX1_allPaid_24 (by decide) (fun c111 => absurd c111 (iv_xeq (iv_c (c := 1) (x := (1 : Int32)) (by decide)) (iv_c (c := 0) (x := (0 : Int32)) (by decide)) (by decide))) (fun c111 => ?_)
          refine at_aload_n C 0 dX1_allPaid_27 rfl ?_
          refine gf_X1_28 C dX1_allPaid_28 ?_
          refine at_iload_n C 2 dX1_allPaid_31 rfl ?_
          refine at_iald C (c := 19) rfl (iv_in (n := 10) f107 (by decide) (by decide)) dX1_allPaid_32 ?_
          refine at_goto C 37 dX1_allPaid_33 (by decide) ?_
          refine at_iadd C dX1_allPaid_37 ?_
          refine at_istore_n C (lv' := [(1, .int (y1_4 + (ac_ga σ 19 (y2_4).toNatClampNeg))), (0, .ref (e_q E 4)), (2, .int y2_4)]) dX1_allPaid_38 hn1 rfl ?_
          refine at_iinc C (v := (y2_4 + (1 : Int32))) (lv' := [(2, .int (y2_4 + (1 : Int32))), (1, .int (y1_4 + (ac_ga σ 19 (y2_4).toNatClampNeg))), (0, .ref (e_q E 4))]) 2 dX1_allPaid_39 rfl rfl hn2 rfl ?_
          refine at_goto C 4 dX1_allPaid_42 (by decide) ?_
          exact at_sub [2, 1, 0] rfl (ih4 (y1_4 + (ac_ga σ 19 (y2_4).toNatClampNeg)) (y2_4 + (1 : Int32)) (mz_up hm4 (ac_ti1 f107 (iv_c (c := 1) (x := (1 : Int32)) (by decide)) (by decide) (by decide) (by decide)) (by decide) (iv_wk (iv_add f107 (iv_c (c := 1) (x := (1 : Int32)) (by decide)) (by decide) (by decide)) (by decide) (by decide) : iv 0 10 (y2_4 + (1 : Int32))).2) (show iv (-2147483648) 2147483647 (y1_4 + (ac_ga σ 19 (y2_4).toNatClampNeg)) from (iv_any (y1_4 + (ac_ga σ 19 (y2_4).toNatClampNeg)))) (iv_wk (iv_add f107 (iv_c (c := 1) (x := (1 : Int32)) (by decide)) (by decide) (by decide)) (by decide) (by decide) : iv 0 10 (y2_4 + (1 : Int32))))
        · refine at_if_eq C 36 dX1_allPaid_24 (by decide) (fun c112 => ?_) (fun c112 => absurd (iv_xne (iv_c (c := 0) (x := (0 : Int32)) (by decide)) (iv_c (c := 0) (x := (0 : Int32)) (by decide))) c112)
          refine at_iconst C (0 : Int32) dX1_allPaid_36 (by decide) ?_
          refine at_iadd C dX1_allPaid_37 ?_
          refine at_istore_n C (lv' := [(1, .int (y1_4 + (0 : Int32))), (0, .ref (e_q E 4)), (2, .int y2_4)]) dX1_allPaid_38 hn1 rfl ?_
          refine at_iinc C (v := (y2_4 + (1 : Int32))) (lv' := [(2, .int (y2_4 + (1 : Int32))), (1, .int (y1_4 + (0 : Int32))), (0, .ref (e_q E 4))]) 2 dX1_allPaid_39 rfl rfl hn2 rfl ?_
          refine at_goto C 4 dX1_allPaid_42 (by decide) ?_
          exact at_sub [2, 1, 0] rfl (ih4 (y1_4 + (0 : Int32)) (y2_4 + (1 : Int32)) (mz_up hm4 (ac_ti1 f107 (iv_c (c := 1) (x := (1 : Int32)) (by decide)) (by decide) (by decide) (by decide)) (by decide) (iv_wk (iv_add f107 (iv_c (c := 1) (x := (1 : Int32)) (by decide)) (by decide) (by decide)) (by decide) (by decide) : iv 0 10 (y2_4 + (1 : Int32))).2) (show iv (-2147483648) 2147483647 (y1_4 + (0 : Int32)) from (iv_add b1_4 (iv_c (c := 0) (x := (0 : Int32)) (by decide)) (by decide) (by decide))) (iv_wk (iv_add f107 (iv_c (c := 1) (x := (1 : Int32)) (by decide)) (by decide) (by decide)) (by decide) (by decide) : iv 0 10 (y2_4 + (1 : Int32))))
  refine at_iconst C (0 : Int32) dX1_allPaid_0 (by decide) ?_
  refine at_istore_n C (lv' := [(1, .int (0 : Int32)), (0, .ref (e_q E 4))]) dX1_allPaid_1 hn1 rfl ?_
  refine at_iconst C (0 : Int32) dX1_allPaid_2 (by decide) ?_
  refine at_istore_n C (lv' := [(2, .int (0 : Int32)), (1, .int (0 : Int32)), (0, .ref (e_q E 4))]) dX1_allPaid_3 hn2 rfl ?_
  exact at_sub [2, 1, 0] rfl (K4 _ (0 : Int32) (0 : Int32) (Nat.lt_succ_self _) (iv_wk (iv_c (c := 0) (x := (0 : Int32)) (by decide)) (by decide) (by decide) : iv (-2147483648) 2147483647 (0 : Int32)) (iv_wk (iv_c (c := 0) (x := (0 : Int32)) (by decide)) (by decide) (by decide) : iv 0 10 (0 : Int32)))
set_option maxHeartbeats 4000000 in
set_option maxRecDepth 100000 in
theorem ct_X1_ending (σ : SS) (x1 : Int32) (hI : Inv σ) : ConI yX1_ending cX1_ending 2 (some .int) 2 (some 4) [.int x1] σ (fun r σ' => σ = σ' ∧ iv (-2147483648) 2147483647 r) := by
  refine conI_of (by decide) (fun q => Nat.le_of_ble_eq_true rfl) (fun E C en hR => ?_)
  refine at_iload_n C 1 dX1_ending_0 rfl ?_
  by_cases c430 : x1 = (0 : Int32)
  · refine at_tabIn C 28 dX1_ending_1 (by rw [c430]; decide) (by rw [c430]; decide) (by rw [c430]; rfl) (by decide) ?_
    have f44 : iv 0 0 x1 := (iv_eql (iv_c (c := 0) (x := (0 : Int32)) (by decide)) c430)
    refine at_aload_n C 0 dX1_ending_28 rfl ?_
    refine gf_X1_34 C dX1_ending_29 ?_
    exact hR _ _ _ _ dX1_ending_32 ⟨rfl, (iv_wk (show iv 0 1023 (ac_gi σ 7) from hI.1 7) (by decide) (by decide) : iv (-2147483648) 2147483647 (ac_gi σ 7))⟩
  by_cases c431 : x1 = (1 : Int32)
  · refine at_tabIn C 33 dX1_ending_1 (by rw [c431]; decide) (by rw [c431]; decide) (by rw [c431]; rfl) (by decide) ?_
    have f45 : iv 1 1 x1 := (iv_eql (iv_c (c := 1) (x := (1 : Int32)) (by decide)) c431)
    refine at_aload_n C 0 dX1_ending_33 rfl ?_
    refine gf_X1_37 C dX1_ending_34 ?_
    exact hR _ _ _ _ dX1_ending_37 ⟨rfl, (iv_wk (show iv 0 1023 (ac_gi σ 8) from hI.1 8) (by decide) (by decide) : iv (-2147483648) 2147483647 (ac_gi σ 8))⟩
  by_cases c432 : x1 = (2 : Int32)
  · refine at_tabIn C 38 dX1_ending_1 (by rw [c432]; decide) (by rw [c432]; decide) (by rw [c432]; rfl) (by decide) ?_
    have f46 : iv 2 2 x1 := (iv_eql (iv_c (c := 2) (x := (2 : Int32)) (by decide)) c432)
    refine at_aload_n C 0 dX1_ending_38 rfl ?_
    refine gf_X1_40 C dX1_ending_39 ?_
    exact hR _ _ _ _ dX1_ending_42 ⟨rfl, (show iv (-2147483648) 2147483647 (ac_gi σ 9) from (iv_any (ac_gi σ 9)))⟩
  refine at_tabOut C 43 dX1_ending_1 (tab_out (lo := 0) (hi := 2) (fun z1 z2 => by have := iv_ne c430; have := iv_ne c431; have := iv_ne c432; simp at *; omega)) (by decide) ?_
  refine at_aload_n C 0 dX1_ending_43 rfl ?_
  refine at_Vi C (As := []) (st := []) (b := 4) (ci := 1) (ct_X1_allPaid σ hI) mb_X1_allPaid ml_X1_68 rfl rfl rfl (by decide) rfl (Nat.le_of_ble_eq_true rfl) dX1_ending_44 ?_
  rintro r47 _ ⟨rfl, f48⟩
  exact hR _ _ _ _ dX1_ending_47 ⟨rfl, (show iv (-2147483648) 2147483647 r47 from f48)⟩
set_option maxHeartbeats 4000000 in
set_option maxRecDepth 100000 in
theorem ct_X1_profit (σ : SS) (x1 : Int32) (x2 : Int32) (hI : Inv σ) : ConI yX1_profit cX1_profit 3 (some .int) 17 (some 4) [.int x1, .int x2] σ (fun r σ' => Gd σ σ' ∧ iv (-2147483648) 2147483647 r) := by
  refine conI_of (by decide) (fun q => Nat.le_of_ble_eq_true rfl) (fun E C en hR => ?_)
  have hG0 : Gd σ σ := Gd.rf hI
  refine at_aload_n C 0 dX1_profit_0 rfl ?_
  refine at_iload_n C 1 dX1_profit_1 rfl ?_
  refine at_Vi C (As := [.int x1]) (st := []) (b := 4) (ci := 1) (ct_X1_isOld σ x1 hI) mb_X1_isOld ml_X1_72 rfl rfl rfl (by decide) rfl (Nat.le_of_ble_eq_true rfl) dX1_profit_2 ?_
  rintro _ _ ⟨rfl, ⟨rfl, c85⟩ | ⟨rfl, c85⟩⟩
  · have f87 : iv 0 9 x1 := (iv_of3 c85.1 (show iv 0 10 (ac_gi σ 0) from hI.1 0))
    refine at_if_ne C 10 dX1_profit_5 (by decide) (fun c88 => ?_) (fun c88 => absurd c88 (iv_xeq (iv_c (c := 1) (x := (1 : Int32)) (by decide)) (iv_c (c := 0) (x := (0 : Int32)) (by decide)) (by decide)))
    refine at_aload_n C 0 dX1_profit_10 rfl ?_
    refine at_iload_n C 1 dX1_profit_11 rfl ?_
    refine at_iload_n C 2 dX1_profit_12 rfl ?_
    refine at_Vv C (As := [.int x1, .int x2]) (st := []) (b := 4) (ci := 1) (ct_X1_letFall σ x1 x2 hI) mb_X1_letFall ml_X1_75 rfl rfl rfl (by decide) rfl (Nat.le_of_ble_eq_true rfl) dX1_profit_13 ?_
    rintro u89 hg90
    have hG91 := hG0.tr hg90
    refine at_aload_n C 0 dX1_profit_16 rfl ?_
    refine gf_X1_37 C dX1_profit_17 ?_
    refine at_iload_n C 1 dX1_profit_20 rfl ?_
    refine at_Ni C (As := [.int (ac_gi u89 8), .int x1]) (st := []) (ct_X6_has u89 (ac_gi u89 8) x1) mb_X6_has ml_X1_57 rfl (by decide) rfl (Nat.le_of_ble_eq_true rfl) dX1_profit_21 ?_
    rintro _ _ ⟨rfl, ⟨rfl, c92⟩ | ⟨rfl, c92⟩⟩
    · refine at_if_eq C 43 dX1_profit_24 (by decide) (fun c94 => absurd c94 (iv_xeq (iv_c (c := 1) (x := (1 : Int32)) (by decide)) (iv_c (c := 0) (x := (0 : Int32)) (by decide)) (by decide))) (fun c94 => ?_)
      refine at_aload_n C 0 dX1_profit_27 rfl ?_
      refine gf_X1_28 C dX1_profit_28 ?_
      refine at_iload_n C 1 dX1_profit_31 rfl ?_
      refine at_iald C (c := 19) rfl (iv_in (n := 10) f87 (by decide) (by decide)) dX1_profit_32 ?_
      refine at_aload_n C 0 dX1_profit_33 rfl ?_
      refine gf_X1_21 C dX1_profit_34 ?_
      refine at_iload_n C 1 dX1_profit_37 rfl ?_
      refine at_iald C (c := 17) rfl (iv_in (n := 10) f87 (by decide) (by decide)) dX1_profit_38 ?_
      refine at_isub C dX1_profit_39 ?_
      refine at_goto C 44 dX1_profit_40 (by decide) ?_
      exact hR _ _ _ _ dX1_profit_44 ⟨hG91, (show iv (-2147483648) 2147483647 ((ac_ga u89 19 (x1).toNatClampNeg) - (ac_ga u89 17 (x1).toNatClampNeg)) from (iv_any ((ac_ga u89 19 (x1).toNatClampNeg) - (ac_ga u89 17 (x1).toNatClampNeg))))⟩
    · refine at_if_eq C 43 dX1_profit_24 (by decide) (fun c95 => ?_) (fun c95 => absurd (iv_xne (iv_c (c := 0) (x := (0 : Int32)) (by decide)) (iv_c (c := 0) (x := (0 : Int32)) (by decide))) c95)
      refine at_iconst C (0 : Int32) dX1_profit_43 (by decide) ?_
      exact hR _ _ _ _ dX1_profit_44 ⟨hG91, (iv_wk (iv_c (c := 0) (x := (0 : Int32)) (by decide)) (by decide) (by decide) : iv (-2147483648) 2147483647 (0 : Int32))⟩
  · refine at_if_ne C 10 dX1_profit_5 (by decide) (fun c96 => absurd (iv_xne (iv_c (c := 0) (x := (0 : Int32)) (by decide)) (iv_c (c := 0) (x := (0 : Int32)) (by decide))) c96) (fun c96 => ?_)
    refine at_iconst C (0 : Int32) dX1_profit_8 (by decide) ?_
    exact hR _ _ _ _ dX1_profit_9 ⟨hG0, (iv_wk (iv_c (c := 0) (x := (0 : Int32)) (by decide)) (by decide) (by decide) : iv (-2147483648) 2147483647 (0 : Int32))⟩
set_option maxHeartbeats 4000000 in
set_option maxRecDepth 100000 in
theorem ct_X1_addStation (σ : SS) (x1 : Int32) (x2 : Int32) (x3 : Int32) (hI : Inv σ) : ConV yX1_addStation cX1_addStation 4 none 1 (some 4) [.int x1, .int x2, .int x3] σ (fun σ' => ((¬ ((0 ≤ (x1).toInt ∧ (x1).toInt < (ac_gi σ 0).toInt))) ∧ σ = σ' ∧ Inv σ') ∨ (((0 ≤ (x1).toInt ∧ (x1).toInt < (ac_gi σ 0).toInt)) ∧ (ac_sa (ac_sa (ac_si σ 4 ((ac_gi σ 4) ||| ((1 : Int32) <<< (x1 &&& 31)))) 17 (upd (ac_ga (ac_si σ 4 ((ac_gi σ 4) ||| ((1 : Int32) <<< (x1 &&& 31)))) 17) (x1).toNatClampNeg x2)) 18 (upd (ac_ga (ac_sa (ac_si σ 4 ((ac_gi σ 4) ||| ((1 : Int32) <<< (x1 &&& 31)))) 17 (upd (ac_ga (ac_si σ 4 ((ac_gi σ 4) ||| ((1 : Int32) <<< (x1 &&& 31)))) 17) (x1).toNatClampNeg x2)) 18) (x1).toNatClampNeg x3)) = σ' ∧ Inv σ')) := by
  refine conV_of (by decide) (fun q => Nat.le_of_ble_eq_true rfl) (fun E C en hR => ?_)
  refine at_aload_n C 0 dX1_addStation_0 rfl ?_
  refine gf_X1_43 C dX1_addStation_1 ?_
  refine at_iload_n C 1 dX1_addStation_4 rfl ?_
  refine at_Vi C (As := [.int x1]) (st := []) (b := 1) (ci := 0) (ct_X0_isMast σ x1) mb_X0_isMast ml_X1_51 rfl rfl rfl (by decide) rfl (Nat.le_of_ble_eq_true rfl) dX1_addStation_5 ?_
  rintro _ _ ⟨rfl, ⟨rfl, c57⟩ | ⟨rfl, c57⟩⟩
  · have f59 : iv 0 9 x1 := (iv_of3 c57 (show iv 0 10 (ac_gi σ 0) from hI.1 0))
    refine at_if_eq C 37 dX1_addStation_8 (by decide) (fun c60 => absurd c60 (iv_xeq (iv_c (c := 1) (x := (1 : Int32)) (by decide)) (iv_c (c := 0) (x := (0 : Int32)) (by decide)) (by decide))) (fun c60 => ?_)
    refine at_aload_n C 0 dX1_addStation_11 rfl ?_
    refine at_dup C dX1_addStation_12 rfl ?_
    refine gf_X1_9 C dX1_addStation_13 ?_
    refine at_iconst C (1 : Int32) dX1_addStation_16 (by decide) ?_
    refine at_iload_n C 1 dX1_addStation_17 rfl ?_
    refine at_ishl C dX1_addStation_18 ?_
    refine at_ior C dX1_addStation_19 ?_
    refine pf_X1_9 C dX1_addStation_20 ?_
    have hJ61 := Inv.si (k := 4) hI (show iv 0 1023 ((ac_gi σ 4) ||| ((1 : Int32) <<< (x1 &&& 31))) from (iv_or 10 (show iv 0 1023 (ac_gi σ 4) from hI.1 4) (iv_wk (c := 0) (iv_shl1 (a := 0) (b := 9) f59 (by decide)) (by decide) (Int.le_refl _)) (by decide) (by decide) (by decide)))
    refine at_aload_n C 0 dX1_addStation_23 rfl ?_
    refine gf_X1_21 C dX1_addStation_24 ?_
    refine at_iload_n C 1 dX1_addStation_27 rfl ?_
    refine at_iload_n C 2 dX1_addStation_28 rfl ?_
    refine at_iast C (c := 17) rfl (fun f => ac_ast_17 _ _ _ _ f) (iv_in (n := 10) f59 (by decide) (by decide)) dX1_addStation_29 ?_
    have hJ62 := Inv.sa (c := 17) (i := (x1).toNatClampNeg) hJ61 (show iv (-2147483648) 2147483647 x2 from (iv_any x2))
    refine at_aload_n C 0 dX1_addStation_30 rfl ?_
    refine gf_X1_25 C dX1_addStation_31 ?_
    refine at_iload_n C 1 dX1_addStation_34 rfl ?_
    refine at_iload_n C 3 dX1_addStation_35 rfl ?_
    refine at_iast C (c := 18) rfl (fun f => ac_ast_18 _ _ _ _ f) (iv_in (n := 10) f59 (by decide) (by decide)) dX1_addStation_36 ?_
    have hJ63 := Inv.sa (c := 18) (i := (x1).toNatClampNeg) hJ62 (show iv (-2147483648) 2147483647 x3 from (iv_any x3))
    exact hR _ _ _ dX1_addStation_37 (Or.inr ⟨(by have := c57; omega), rfl, hJ63⟩)
  · refine at_if_eq C 37 dX1_addStation_8 (by decide) (fun c64 => ?_) (fun c64 => absurd (iv_xne (iv_c (c := 0) (x := (0 : Int32)) (by decide)) (iv_c (c := 0) (x := (0 : Int32)) (by decide))) c64)
    exact hR _ _ _ dX1_addStation_37 (Or.inl ⟨(by have := c57; omega), rfl, hI⟩)
