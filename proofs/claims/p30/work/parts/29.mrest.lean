set_option maxHeartbeats 4000000 in
set_option maxRecDepth 100000 in
theorem ct_X7_broken (σ : SS) (x1 : Int32) (x2 : Int32) (hI : Inv σ) (g1 : iv 0 9 x1) : ConI yX7_broken cX7_broken 5 (some .int) 1 (some 30) [.int x1, .int x2] σ (fun r σ' => σ = σ' ∧ iv (-2147483648) 2147483647 r) := by
  refine conI_of (by decide) (fun q => Nat.le_of_ble_eq_true rfl) (fun E C en hR => ?_)
  have hn3 : 3 < e_n E := by rw [en]; decide
  have hn4 : 4 < e_n E := by rw [en]; decide
  have K5 : ∀ (n5 : Nat) (y3_5 : Int32) (y4_5 : Int32), (10 - (y4_5).toInt).toNat < n5 → iv 0 1023 y3_5 → iv 0 10 y4_5 → AT E 5 [(0, .ref (e_q E 30)), (1, .int x1), (2, .int x2), (3, .int y3_5), (4, .int y4_5)] [] σ := by
    intro n5
    induction n5 with
    | zero => intro y3_5 y4_5 hm; exact absurd hm (Nat.not_lt_zero _)
    | succ n5 ih5 =>
      intro y3_5 y4_5 hm5 b3_5 b4_5
      refine at_iload C 4 dX7_broken_5 rfl ?_
      refine at_aload_n C 0 dX7_broken_7 rfl ?_
      refine gf_X7_87 C dX7_broken_8 ?_
      refine at_icmp_ge C 65 dX7_broken_11 (by decide) (fun c188 => ?_) (fun c188 => ?_)
      · refine at_iload_n C 3 dX7_broken_65 rfl ?_
        exact hR _ _ _ _ dX7_broken_66 ⟨rfl, (iv_wk b3_5 (by decide) (by decide) : iv (-2147483648) 2147483647 y3_5)⟩
      · have f189 : iv 0 9 y4_5 := (iv_ltl b4_5 (show iv 0 10 (ac_gi σ 15) from hI.1 15) (Int32.not_le.mp c188))
        have f190 : iv 1 10 (ac_gi σ 15) := (iv_ltr b4_5 (show iv 0 10 (ac_gi σ 15) from hI.1 15) (Int32.not_le.mp c188))
        refine at_iload_n C 3 dX7_broken_14 rfl ?_
        refine at_iload C 4 dX7_broken_15 rfl ?_
        refine at_iload_n C 1 dX7_broken_17 rfl ?_
        refine at_icmp_eq C 56 dX7_broken_18 (by decide) (fun c191 => ?_) (fun c191 => ?_)
        · refine at_iconst C (0 : Int32) dX7_broken_56 (by decide) ?_
          refine at_ior C dX7_broken_57 ?_
          refine at_istore_n C (lv' := [(3, .int (y3_5 ||| (0 : Int32))), (0, .ref (e_q E 30)), (1, .int x1), (2, .int x2), (4, .int y4_5)]) dX7_broken_58 hn3 rfl ?_
          refine at_iinc C (v := (y4_5 + (1 : Int32))) (lv' := [(4, .int (y4_5 + (1 : Int32))), (3, .int (y3_5 ||| (0 : Int32))), (0, .ref (e_q E 30)), (1, .int x1), (2, .int x2)]) 4 dX7_broken_59 rfl rfl hn4 rfl ?_
          refine at_goto C 5 dX7_broken_62 (by decide) ?_
          exact at_sub [2, 3, 4, 1, 0] rfl (ih5 (y3_5 ||| (0 : Int32)) (y4_5 + (1 : Int32)) (mz_up hm5 (ac_ti1 f189 (iv_c (c := 1) (x := (1 : Int32)) (by decide)) (by decide) (by decide) (by decide)) (by decide) (iv_wk (iv_add f189 (iv_c (c := 1) (x := (1 : Int32)) (by decide)) (by decide) (by decide)) (by decide) (by decide) : iv 0 10 (y4_5 + (1 : Int32))).2) (show iv 0 1023 (y3_5 ||| (0 : Int32)) from (iv_or 10 b3_5 (iv_c (c := 0) (x := (0 : Int32)) (by decide)) (by decide) (by decide) (by decide))) (iv_wk (iv_add f189 (iv_c (c := 1) (x := (1 : Int32)) (by decide)) (by decide) (by decide)) (by decide) (by decide) : iv 0 10 (y4_5 + (1 : Int32))))
        · refine at_aload_n C 0 dX7_broken_21 rfl ?_
          refine gf_X7_78 C dX7_broken_22 ?_
          refine at_iload C 4 dX7_broken_25 rfl ?_
          refine at_iald C (c := 49) rfl (iv_in (n := 10) f189 (by decide) (by decide)) dX7_broken_27 ?_
          refine at_if_lt C 56 dX7_broken_28 (by decide) (fun c192 => ?_) (fun c192 => ?_)
          · have f193 : iv (-2147483648) (-1) (ac_ga σ 49 (y4_5).toNatClampNeg) := (iv_ltl (iv_any (ac_ga σ 49 (y4_5).toNatClampNeg)) (iv_c (c := 0) (x := (0 : Int32)) (by decide)) c192)
            refine at_iconst C (0 : Int32) dX7_broken_56 (by decide) ?_
            refine at_ior C dX7_broken_57 ?_
            refine at_istore_n C (lv' := [(3, .int (y3_5 ||| (0 : Int32))), (0, .ref (e_q E 30)), (1, .int x1), (2, .int x2), (4, .int y4_5)]) dX7_broken_58 hn3 rfl ?_
            refine at_iinc C (v := (y4_5 + (1 : Int32))) (lv' := [(4, .int (y4_5 + (1 : Int32))), (3, .int (y3_5 ||| (0 : Int32))), (0, .ref (e_q E 30)), (1, .int x1), (2, .int x2)]) 4 dX7_broken_59 rfl rfl hn4 rfl ?_
            refine at_goto C 5 dX7_broken_62 (by decide) ?_
            exact at_sub [2, 3, 4, 1, 0] rfl (ih5 (y3_5 ||| (0 : Int32)) (y4_5 + (1 : Int32)) (mz_up hm5 (ac_ti1 f189 (iv_c (c := 1) (x := (1 : Int32)) (by decide)) (by decide) (by decide) (by decide)) (by decide) (iv_wk (iv_add f189 (iv_c (c := 1) (x := (1 : Int32)) (by decide)) (by decide) (by decide)) (by decide) (by decide) : iv 0 10 (y4_5 + (1 : Int32))).2) (show iv 0 1023 (y3_5 ||| (0 : Int32)) from (iv_or 10 b3_5 (iv_c (c := 0) (x := (0 : Int32)) (by decide)) (by decide) (by decide) (by decide))) (iv_wk (iv_add f189 (iv_c (c := 1) (x := (1 : Int32)) (by decide)) (by decide) (by decide)) (by decide) (by decide) : iv 0 10 (y4_5 + (1 : Int32))))
          · have f194 : iv 0 2147483647 (ac_ga σ 49 (y4_5).toNatClampNeg) := (iv_ler (iv_c (c := 0) (x := (0 : Int32)) (by decide)) (iv_any (ac_ga σ 49 (y4_5).toNatClampNeg)) (Int32.not_lt.mp c192))
            refine at_aload_n C 0 dX7_broken_31 rfl ?_
            refine at_iload_n C 1 dX7_broken_32 rfl ?_
            refine at_iload C 4 dX7_broken_33 rfl ?_
            refine at_iload_n C 2 dX7_broken_35 rfl ?_
            refine at_aload_n C 0 dX7_broken_36 rfl ?_
            refine gf_X7_78 C dX7_broken_37 ?_
            refine at_iload C 4 dX7_broken_40 rfl ?_
            refine at_iald C (c := 49) rfl (iv_in (n := 10) f189 (by decide) (by decide)) dX7_broken_42 ?_
            refine at_Vi C (As := [.int x1, .int y4_5, .int x2, .int (ac_ga σ 49 (y4_5).toNatClampNeg)]) (st := [.int y3_5]) (b := 30) (ci := 7) (ct_X7_breaks σ x1 y4_5 x2 (ac_ga σ 49 (y4_5).toNatClampNeg) hI (show iv 0 9 x1 from g1) (show iv 0 9 y4_5 from f189)) mb_X7_breaks ml_X7_109 rfl rfl rfl (by decide) rfl (Nat.le_of_ble_eq_true rfl) dX7_broken_43 ?_
            rintro _ _ ⟨rfl, rfl | rfl⟩
            · refine at_if_eq C 56 dX7_broken_46 (by decide) (fun c198 => ?_) (fun c198 => absurd (iv_xne (iv_c (c := 0) (x := (0 : Int32)) (by decide)) (iv_c (c := 0) (x := (0 : Int32)) (by decide))) c198)
              refine at_iconst C (0 : Int32) dX7_broken_56 (by decide) ?_
              refine at_ior C dX7_broken_57 ?_
              refine at_istore_n C (lv' := [(3, .int (y3_5 ||| (0 : Int32))), (0, .ref (e_q E 30)), (1, .int x1), (2, .int x2), (4, .int y4_5)]) dX7_broken_58 hn3 rfl ?_
              refine at_iinc C (v := (y4_5 + (1 : Int32))) (lv' := [(4, .int (y4_5 + (1 : Int32))), (3, .int (y3_5 ||| (0 : Int32))), (0, .ref (e_q E 30)), (1, .int x1), (2, .int x2)]) 4 dX7_broken_59 rfl rfl hn4 rfl ?_
              refine at_goto C 5 dX7_broken_62 (by decide) ?_
              exact at_sub [2, 3, 4, 1, 0] rfl (ih5 (y3_5 ||| (0 : Int32)) (y4_5 + (1 : Int32)) (mz_up hm5 (ac_ti1 f189 (iv_c (c := 1) (x := (1 : Int32)) (by decide)) (by decide) (by decide) (by decide)) (by decide) (iv_wk (iv_add f189 (iv_c (c := 1) (x := (1 : Int32)) (by decide)) (by decide) (by decide)) (by decide) (by decide) : iv 0 10 (y4_5 + (1 : Int32))).2) (show iv 0 1023 (y3_5 ||| (0 : Int32)) from (iv_or 10 b3_5 (iv_c (c := 0) (x := (0 : Int32)) (by decide)) (by decide) (by decide) (by decide))) (iv_wk (iv_add f189 (iv_c (c := 1) (x := (1 : Int32)) (by decide)) (by decide) (by decide)) (by decide) (by decide) : iv 0 10 (y4_5 + (1 : Int32))))
            · refine at_if_eq C 56 dX7_broken_46 (by decide) (fun c199 => absurd c199 (iv_xeq (iv_c (c := 1) (x := (1 : Int32)) (by decide)) (iv_c (c := 0) (x := (0 : Int32)) (by decide)) (by decide))) (fun c199 => ?_)
              refine at_iconst C (1 : Int32) dX7_broken_49 (by decide) ?_
              refine at_iload C 4 dX7_broken_50 rfl ?_
              refine at_ishl C dX7_broken_52 ?_
              refine at_goto C 57 dX7_broken_53 (by decide) ?_
              refine at_ior C dX7_broken_57 ?_
              refine at_istore_n C (lv' := [(3, .int (y3_5 ||| ((1 : Int32) <<< (y4_5 &&& 31)))), (0, .ref (e_q E 30)), (1, .int x1), (2, .int x2), (4, .int y4_5)]) dX7_broken_58 hn3 rfl ?_
              refine at_iinc C (v := (y4_5 + (1 : Int32))) (lv' := [(4, .int (y4_5 + (1 : Int32))), (3, .int (y3_5 ||| ((1 : Int32) <<< (y4_5 &&& 31)))), (0, .ref (e_q E 30)), (1, .int x1), (2, .int x2)]) 4 dX7_broken_59 rfl rfl hn4 rfl ?_
              refine at_goto C 5 dX7_broken_62 (by decide) ?_
              exact at_sub [2, 3, 4, 1, 0] rfl (ih5 (y3_5 ||| ((1 : Int32) <<< (y4_5 &&& 31))) (y4_5 + (1 : Int32)) (mz_up hm5 (ac_ti1 f189 (iv_c (c := 1) (x := (1 : Int32)) (by decide)) (by decide) (by decide) (by decide)) (by decide) (iv_wk (iv_add f189 (iv_c (c := 1) (x := (1 : Int32)) (by decide)) (by decide) (by decide)) (by decide) (by decide) : iv 0 10 (y4_5 + (1 : Int32))).2) (show iv 0 1023 (y3_5 ||| ((1 : Int32) <<< (y4_5 &&& 31))) from (iv_or 10 b3_5 (iv_wk (c := 0) (iv_shl1 (a := 0) (b := 9) f189 (by decide)) (by decide) (Int.le_refl _)) (by decide) (by decide) (by decide))) (iv_wk (iv_add f189 (iv_c (c := 1) (x := (1 : Int32)) (by decide)) (by decide) (by decide)) (by decide) (by decide) : iv 0 10 (y4_5 + (1 : Int32))))
  refine at_iconst C (0 : Int32) dX7_broken_0 (by decide) ?_
  refine at_istore_n C (lv' := [(3, .int (0 : Int32)), (0, .ref (e_q E 30)), (1, .int x1), (2, .int x2)]) dX7_broken_1 hn3 rfl ?_
  refine at_iconst C (0 : Int32) dX7_broken_2 (by decide) ?_
  refine at_istore C (lv' := [(4, .int (0 : Int32)), (3, .int (0 : Int32)), (0, .ref (e_q E 30)), (1, .int x1), (2, .int x2)]) dX7_broken_3 hn4 rfl ?_
  exact at_sub [2, 3, 4, 1, 0] rfl (K5 _ (0 : Int32) (0 : Int32) (Nat.lt_succ_self _) (iv_wk (iv_c (c := 0) (x := (0 : Int32)) (by decide)) (by decide) (by decide) : iv 0 1023 (0 : Int32)) (iv_wk (iv_c (c := 0) (x := (0 : Int32)) (by decide)) (by decide) (by decide) : iv 0 10 (0 : Int32)))
set_option maxHeartbeats 4000000 in
set_option maxRecDepth 100000 in
theorem ct_X7_tower (σ : SS) (x1 : Int32) (x2 : Int32) (hI : Inv σ) : ConI yX7_tower cX7_tower 3 (some .int) 2 (some 30) [.int x1, .int x2] σ (fun r σ' => σ = σ' ∧ iv (-2147483648) 2147483647 r) := by
  refine conI_of (by decide) (fun q => Nat.le_of_ble_eq_true rfl) (fun E C en hR => ?_)
  refine at_aload_n C 0 dX7_tower_0 rfl ?_
  refine at_iload_n C 1 dX7_tower_1 rfl ?_
  refine at_Vi C (As := [.int x1]) (st := []) (b := 30) (ci := 7) (ct_X7_noMast σ x1 hI) mb_X7_noMast ml_X7_96 rfl rfl rfl (by decide) rfl (Nat.le_of_ble_eq_true rfl) dX7_tower_2 ?_
  rintro _ _ ⟨rfl, ⟨rfl, c85⟩ | ⟨rfl, c85⟩⟩
  · refine at_if_ne C 20 dX7_tower_5 (by decide) (fun c87 => ?_) (fun c87 => absurd c87 (iv_xeq (iv_c (c := 1) (x := (1 : Int32)) (by decide)) (iv_c (c := 0) (x := (0 : Int32)) (by decide)) (by decide)))
    refine at_bipush C (-2 : Int32) dX7_tower_20 (by decide) ?_
    refine at_goto C 31 dX7_tower_22 (by decide) ?_
    exact hR _ _ _ _ dX7_tower_31 ⟨rfl, (iv_wk (iv_c (c := (-2)) (x := (-2 : Int32)) (by decide)) (by decide) (by decide) : iv (-2147483648) 2147483647 (-2 : Int32))⟩
  · have f88 : iv 0 9 x1 := (iv_of3 (Classical.not_not.mp c85) (show iv 0 10 (ac_gi σ 15) from hI.1 15))
    refine at_if_ne C 20 dX7_tower_5 (by decide) (fun c89 => absurd (iv_xne (iv_c (c := 0) (x := (0 : Int32)) (by decide)) (iv_c (c := 0) (x := (0 : Int32)) (by decide))) c89) (fun c89 => ?_)
    refine at_iload_n C 2 dX7_tower_8 rfl ?_
    refine at_i2l C dX7_tower_9 ?_
    refine at_lconst C (0 : Int64) dX7_tower_10 (by decide) ?_
    refine at_ldc2 C (5 : Int64) dX7_tower_11 kc_X7_217 ?_
    refine at_Si C (As := [.long (x2).toInt64, .long (0 : Int64), .long (5 : Int64)]) (st := []) (ct_X7_in σ (x2).toInt64 (0 : Int64) (5 : Int64)) mb_X7_in ml_X7_90 rfl (by decide) rfl (Nat.le_of_ble_eq_true rfl) dX7_tower_14 ?_
    rintro _ _ ⟨rfl, ⟨rfl, c90⟩ | ⟨rfl, c90⟩⟩
    · have f92 : iv 0 5 x2 := (in_iv c90 (by decide) (by decide))
      refine at_if_ne C 25 dX7_tower_17 (by decide) (fun c93 => ?_) (fun c93 => absurd c93 (iv_xeq (iv_c (c := 1) (x := (1 : Int32)) (by decide)) (iv_c (c := 0) (x := (0 : Int32)) (by decide)) (by decide)))
      refine at_aload_n C 0 dX7_tower_25 rfl ?_
      refine at_iload_n C 1 dX7_tower_26 rfl ?_
      refine at_iload_n C 2 dX7_tower_27 rfl ?_
      refine at_Vi C (As := [.int x1, .int x2]) (st := []) (b := 30) (ci := 7) (ct_X7_broken σ x1 x2 hI (show iv 0 9 x1 from f88)) mb_X7_broken ml_X7_228 rfl rfl rfl (by decide) rfl (Nat.le_of_ble_eq_true rfl) dX7_tower_28 ?_
      rintro r94 _ ⟨rfl, f95⟩
      exact hR _ _ _ _ dX7_tower_31 ⟨rfl, (show iv (-2147483648) 2147483647 r94 from f95)⟩
    · refine at_if_ne C 25 dX7_tower_17 (by decide) (fun c96 => absurd (iv_xne (iv_c (c := 0) (x := (0 : Int32)) (by decide)) (iv_c (c := 0) (x := (0 : Int32)) (by decide))) c96) (fun c96 => ?_)
      refine at_bipush C (-2 : Int32) dX7_tower_20 (by decide) ?_
      refine at_goto C 31 dX7_tower_22 (by decide) ?_
      exact hR _ _ _ _ dX7_tower_31 ⟨rfl, (iv_wk (iv_c (c := (-2)) (x := (-2 : Int32)) (by decide)) (by decide) (by decide) : iv (-2147483648) 2147483647 (-2 : Int32))⟩
set_option maxHeartbeats 4000000 in
set_option maxRecDepth 100000 in
theorem ct_X7_free (σ : SS) (x1 : Int32) (hI : Inv σ) : ConI yX7_free cX7_free 4 (some .int) 2 (some 30) [.int x1] σ (fun r σ' => σ = σ' ∧ iv (-2147483648) 2147483647 r) := by
  refine conI_of (by decide) (fun q => Nat.le_of_ble_eq_true rfl) (fun E C en hR => ?_)
  have hn2 : 2 < e_n E := by rw [en]; decide
  have hn3 : 3 < e_n E := by rw [en]; decide
  have K15 : ∀ (n15 : Nat) (y2_15 : Int32) (y3_15 : Int32), (6 - (y3_15).toInt).toNat < n15 → iv 0 9 x1 → iv 0 63 y2_15 → iv 0 6 y3_15 → AT E 15 [(0, .ref (e_q E 30)), (1, .int x1), (2, .int y2_15), (3, .int y3_15)] [] σ := by
    intro n15
    induction n15 with
    | zero => intro y2_15 y3_15 hm; exact absurd hm (Nat.not_lt_zero _)
    | succ n15 ih15 =>
      intro y2_15 y3_15 hm15 b1_15 b2_15 b3_15
      refine at_iload_n C 3 dX7_free_15 rfl ?_
      refine at_aload_n C 0 dX7_free_16 rfl ?_
      refine gf_X7_7 C dX7_free_17 ?_
      refine at_icmp_ge C 61 dX7_free_20 (by decide) (fun c179 => ?_) (fun c179 => ?_)
      · have f180 : iv 1 6 y3_15 := (iv_ler (show iv 1 6 (ac_gi σ 16) from hI.1 16) b3_15 c179)
        refine at_iload_n C 2 dX7_free_61 rfl ?_
        exact hR _ _ _ _ dX7_free_62 ⟨rfl, (iv_wk b2_15 (by decide) (by decide) : iv (-2147483648) 2147483647 y2_15)⟩
      · have f181 : iv 0 5 y3_15 := (iv_ltl b3_15 (show iv 1 6 (ac_gi σ 16) from hI.1 16) (Int32.not_le.mp c179))
        refine at_iload_n C 2 dX7_free_23 rfl ?_
        refine at_aload_n C 0 dX7_free_24 rfl ?_
        refine gf_X7_20 C dX7_free_25 ?_
        refine at_iload_n C 1 dX7_free_28 rfl ?_
        refine at_iald C (c := 32) rfl (iv_in (n := 10) b1_15 (by decide) (by decide)) dX7_free_29 ?_
        refine at_iload_n C 3 dX7_free_30 rfl ?_
        refine at_ishr C dX7_free_31 ?_
        refine at_iconst C (1 : Int32) dX7_free_32 (by decide) ?_
        refine at_iand C dX7_free_33 ?_
        refine at_if_ne C 52 dX7_free_34 (by decide) (fun c182 => ?_) (fun c182 => ?_)
        · have f183 : iv 1 1 (((ac_ga σ 32 (x1).toNatClampNeg) >>> (y3_15 &&& 31)) &&& (1 : Int32)) := (iv_nel (iv_andr (iv_wk (c := 0) (iv_c (c := 1) (x := (1 : Int32)) (by decide)) (by decide) (Int.le_refl _))) (by decide) c182)
          refine at_iconst C (0 : Int32) dX7_free_52 (by decide) ?_
          refine at_ior C dX7_free_53 ?_
          refine at_istore_n C (lv' := [(2, .int (y2_15 ||| (0 : Int32))), (0, .ref (e_q E 30)), (1, .int x1), (3, .int y3_15)]) dX7_free_54 hn2 rfl ?_
          refine at_iinc C (v := (y3_15 + (1 : Int32))) (lv' := [(3, .int (y3_15 + (1 : Int32))), (2, .int (y2_15 ||| (0 : Int32))), (0, .ref (e_q E 30)), (1, .int x1)]) 3 dX7_free_55 rfl rfl hn3 rfl ?_
          refine at_goto C 15 dX7_free_58 (by decide) ?_
          exact at_sub [2, 3, 1, 0] rfl (ih15 (y2_15 ||| (0 : Int32)) (y3_15 + (1 : Int32)) (mz_up hm15 (ac_ti1 f181 (iv_c (c := 1) (x := (1 : Int32)) (by decide)) (by decide) (by decide) (by decide)) (by decide) (iv_wk (iv_add f181 (iv_c (c := 1) (x := (1 : Int32)) (by decide)) (by decide) (by decide)) (by decide) (by decide) : iv 0 6 (y3_15 + (1 : Int32))).2) (show iv 0 9 x1 from b1_15) (show iv 0 63 (y2_15 ||| (0 : Int32)) from (iv_or 6 b2_15 (iv_c (c := 0) (x := (0 : Int32)) (by decide)) (by decide) (by decide) (by decide))) (iv_wk (iv_add f181 (iv_c (c := 1) (x := (1 : Int32)) (by decide)) (by decide) (by decide)) (by decide) (by decide) : iv 0 6 (y3_15 + (1 : Int32))))
        · have f184 : iv 0 0 (((ac_ga σ 32 (x1).toNatClampNeg) >>> (y3_15 &&& 31)) &&& (1 : Int32)) := (iv_eql (iv_c (c := 0) (x := (0 : Int32)) (by decide)) c182)
          refine at_aload_n C 0 dX7_free_37 rfl ?_
          refine at_iload_n C 1 dX7_free_38 rfl ?_
          refine at_iload_n C 3 dX7_free_39 rfl ?_
          refine at_Vi C (As := [.int x1, .int y3_15]) (st := [.int y2_15]) (b := 30) (ci := 7) (ct_X7_broken σ x1 y3_15 hI (show iv 0 9 x1 from b1_15)) mb_X7_broken ml_X7_228 rfl rfl rfl (by decide) rfl (Nat.le_of_ble_eq_true rfl) dX7_free_40 ?_
          rintro r185 _ ⟨rfl, f186⟩
          refine at_if_ne C 52 dX7_free_43 (by decide) (fun c187 => ?_) (fun c187 => ?_)
          · refine at_iconst C (0 : Int32) dX7_free_52 (by decide) ?_
            refine at_ior C dX7_free_53 ?_
            refine at_istore_n C (lv' := [(2, .int (y2_15 ||| (0 : Int32))), (0, .ref (e_q E 30)), (1, .int x1), (3, .int y3_15)]) dX7_free_54 hn2 rfl ?_
            refine at_iinc C (v := (y3_15 + (1 : Int32))) (lv' := [(3, .int (y3_15 + (1 : Int32))), (2, .int (y2_15 ||| (0 : Int32))), (0, .ref (e_q E 30)), (1, .int x1)]) 3 dX7_free_55 rfl rfl hn3 rfl ?_
            refine at_goto C 15 dX7_free_58 (by decide) ?_
            exact at_sub [2, 3, 1, 0] rfl (ih15 (y2_15 ||| (0 : Int32)) (y3_15 + (1 : Int32)) (mz_up hm15 (ac_ti1 f181 (iv_c (c := 1) (x := (1 : Int32)) (by decide)) (by decide) (by decide) (by decide)) (by decide) (iv_wk (iv_add f181 (iv_c (c := 1) (x := (1 : Int32)) (by decide)) (by decide) (by decide)) (by decide) (by decide) : iv 0 6 (y3_15 + (1 : Int32))).2) (show iv 0 9 x1 from b1_15) (show iv 0 63 (y2_15 ||| (0 : Int32)) from (iv_or 6 b2_15 (iv_c (c := 0) (x := (0 : Int32)) (by decide)) (by decide) (by decide) (by decide))) (iv_wk (iv_add f181 (iv_c (c := 1) (x := (1 : Int32)) (by decide)) (by decide) (by decide)) (by decide) (by decide) : iv 0 6 (y3_15 + (1 : Int32))))
          · have f188 : iv 0 0 r185 := (iv_eql (iv_c (c := 0) (x := (0 : Int32)) (by decide)) c187)
            refine at_iconst C (1 : Int32) dX7_free_46 (by decide) ?_
            refine at_iload_n C 3 dX7_free_47 rfl ?_
            refine at_ishl C dX7_free_48 ?_
            refine at_goto C 53 dX7_free_49 (by decide) ?_
            refine at_ior C dX7_free_53 ?_
            refine at_istore_n C (lv' := [(2, .int (y2_15 ||| ((1 : Int32) <<< (y3_15 &&& 31)))), (0, .ref (e_q E 30)), (1, .int x1), (3, .int y3_15)]) dX7_free_54 hn2 rfl ?_
            refine at_iinc C (v := (y3_15 + (1 : Int32))) (lv' := [(3, .int (y3_15 + (1 : Int32))), (2, .int (y2_15 ||| ((1 : Int32) <<< (y3_15 &&& 31)))), (0, .ref (e_q E 30)), (1, .int x1)]) 3 dX7_free_55 rfl rfl hn3 rfl ?_
            refine at_goto C 15 dX7_free_58 (by decide) ?_
            exact at_sub [2, 3, 1, 0] rfl (ih15 (y2_15 ||| ((1 : Int32) <<< (y3_15 &&& 31))) (y3_15 + (1 : Int32)) (mz_up hm15 (ac_ti1 f181 (iv_c (c := 1) (x := (1 : Int32)) (by decide)) (by decide) (by decide) (by decide)) (by decide) (iv_wk (iv_add f181 (iv_c (c := 1) (x := (1 : Int32)) (by decide)) (by decide) (by decide)) (by decide) (by decide) : iv 0 6 (y3_15 + (1 : Int32))).2) (show iv 0 9 x1 from b1_15) (show iv 0 63 (y2_15 ||| ((1 : Int32) <<< (y3_15 &&& 31))) from (iv_or 6 b2_15 (iv_wk (c := 0) (iv_shl1 (a := 0) (b := 5) f181 (by decide)) (by decide) (Int.le_refl _)) (by decide) (by decide) (by decide))) (iv_wk (iv_add f181 (iv_c (c := 1) (x := (1 : Int32)) (by decide)) (by decide) (by decide)) (by decide) (by decide) : iv 0 6 (y3_15 + (1 : Int32))))
  refine at_aload_n C 0 dX7_free_0 rfl ?_
  refine at_iload_n C 1 dX7_free_1 rfl ?_
  refine at_Vi C (As := [.int x1]) (st := []) (b := 30) (ci := 7) (ct_X7_noMast σ x1 hI) mb_X7_noMast ml_X7_96 rfl rfl rfl (by decide) rfl (Nat.le_of_ble_eq_true rfl) dX7_free_2 ?_
  rintro _ _ ⟨rfl, ⟨rfl, c189⟩ | ⟨rfl, c189⟩⟩
  · refine at_if_eq C 11 dX7_free_5 (by decide) (fun c191 => absurd c191 (iv_xeq (iv_c (c := 1) (x := (1 : Int32)) (by decide)) (iv_c (c := 0) (x := (0 : Int32)) (by decide)) (by decide))) (fun c191 => ?_)
    refine at_bipush C (-2 : Int32) dX7_free_8 (by decide) ?_
    exact hR _ _ _ _ dX7_free_10 ⟨rfl, (iv_wk (iv_c (c := (-2)) (x := (-2 : Int32)) (by decide)) (by decide) (by decide) : iv (-2147483648) 2147483647 (-2 : Int32))⟩
  · have f192 : iv 0 9 x1 := (iv_of3 (Classical.not_not.mp c189) (show iv 0 10 (ac_gi σ 15) from hI.1 15))
    refine at_if_eq C 11 dX7_free_5 (by decide) (fun c193 => ?_) (fun c193 => absurd (iv_xne (iv_c (c := 0) (x := (0 : Int32)) (by decide)) (iv_c (c := 0) (x := (0 : Int32)) (by decide))) c193)
    refine at_iconst C (0 : Int32) dX7_free_11 (by decide) ?_
    refine at_istore_n C (lv' := [(2, .int (0 : Int32)), (0, .ref (e_q E 30)), (1, .int x1)]) dX7_free_12 hn2 rfl ?_
    refine at_iconst C (0 : Int32) dX7_free_13 (by decide) ?_
    refine at_istore_n C (lv' := [(3, .int (0 : Int32)), (2, .int (0 : Int32)), (0, .ref (e_q E 30)), (1, .int x1)]) dX7_free_14 hn3 rfl ?_
    exact at_sub [2, 3, 1, 0] rfl (K15 _ (0 : Int32) (0 : Int32) (Nat.lt_succ_self _) (show iv 0 9 x1 from f192) (iv_wk (iv_c (c := 0) (x := (0 : Int32)) (by decide)) (by decide) (by decide) : iv 0 63 (0 : Int32)) (iv_wk (iv_c (c := 0) (x := (0 : Int32)) (by decide)) (by decide) (by decide) : iv 0 6 (0 : Int32)))
set_option maxHeartbeats 4000000 in
set_option maxRecDepth 100000 in
theorem ct_X7_could (σ : SS) (x1 : Int32) (x2 : Int32) (hI : Inv σ) : ConI yX7_could cX7_could 5 (some .int) 1 (some 30) [.int x1, .int x2] σ (fun r σ' => σ = σ' ∧ iv (-2147483648) 2147483647 r ∧ ((((0 ≤ (x1).toInt ∧ (x1).toInt < ((1 : Int32) <<< (ac_gi σ 15 &&& 31)).toInt) ∧ (0 ≤ (x2).toInt ∧ (x2).toInt < ((1 : Int32) <<< (ac_gi σ 15 &&& 31)).toInt) ∧ (x2 &&& (x1 ^^^ (-1 : Int32))) = 0) ∧ r = cf_f (ac_ga σ 51) x1 x2 16) ∨ (¬ ((0 ≤ (x1).toInt ∧ (x1).toInt < ((1 : Int32) <<< (ac_gi σ 15 &&& 31)).toInt) ∧ (0 ≤ (x2).toInt ∧ (x2).toInt < ((1 : Int32) <<< (ac_gi σ 15 &&& 31)).toInt) ∧ (x2 &&& (x1 ^^^ (-1 : Int32))) = 0) ∧ r = -2))) := by
  refine conI_of (by decide) (fun q => Nat.le_of_ble_eq_true rfl) (fun E C en hR => ?_)
  have hn3 : 3 < e_n E := by rw [en]; decide
  have hn4 : 4 < e_n E := by rw [en]; decide
  have K32 : ∀ (n32 : Nat) (y3_32 : Int32) (y4_32 : Int32), (16 - (y4_32).toInt).toNat < n32 → iv 0 1023 x1 → iv 0 1023 x2 → iv 0 2147483647 y3_32 → iv 0 16 y4_32 → (y3_32 = cf_f (ac_ga σ 51) x1 x2 (y4_32).toNatClampNeg) → ((0 ≤ (x1).toInt ∧ (x1).toInt < ((1 : Int32) <<< (ac_gi σ 15 &&& 31)).toInt) ∧ (0 ≤ (x2).toInt ∧ (x2).toInt < ((1 : Int32) <<< (ac_gi σ 15 &&& 31)).toInt) ∧ (x2 &&& (x1 ^^^ (-1 : Int32))) = 0) → AT E 32 [(0, .ref (e_q E 30)), (1, .int x1), (2, .int x2), (3, .int y3_32), (4, .int y4_32)] [] σ := by
    intro n32
    induction n32 with
    | zero => intro y3_32 y4_32 hm; exact absurd hm (Nat.not_lt_zero _)
    | succ n32 ih32 =>
      intro y3_32 y4_32 hm32 b1_32 b2_32 b3_32 b4_32 e0_32 e1_32
      refine at_iload C 4 dX7_could_32 rfl ?_
      refine at_bipush C (16 : Int32) dX7_could_34 (by decide) ?_
      refine at_icmp_ge C 69 dX7_could_36 (by decide) (fun c285 => ?_) (fun c285 => ?_)
      · have f286 : iv 16 16 y4_32 := (iv_ler (iv_c (c := 16) (x := (16 : Int32)) (by decide)) b4_32 c285)
        refine at_iload_n C 3 dX7_could_69 rfl ?_
        exact hR _ _ _ _ dX7_could_70 ⟨rfl, (iv_wk b3_32 (by decide) (by decide) : iv (-2147483648) 2147483647 y3_32), (Or.inl ⟨e1_32, by have q := iv_16 (show iv 16 16 y4_32 from f286); have q2 := e0_32; rw [q] at q2; exact q2⟩)⟩
      · have f287 : iv 0 15 y4_32 := (iv_ltl b4_32 (iv_c (c := 16) (x := (16 : Int32)) (by decide)) (Int32.not_le.mp c285))
        refine at_iload_n C 3 dX7_could_39 rfl ?_
        refine at_aload_n C 0 dX7_could_40 rfl ?_
        refine gf_X7_84 C dX7_could_41 ?_
        refine at_iload C 4 dX7_could_44 rfl ?_
        refine at_iald C (c := 51) rfl (iv_in (n := 16) f287 (by decide) (by decide)) dX7_could_46 ?_
        refine at_iload_n C 1 dX7_could_47 rfl ?_
        refine at_iand C dX7_could_48 ?_
        refine at_iload_n C 2 dX7_could_49 rfl ?_
        refine at_icmp_ne C 60 dX7_could_50 (by decide) (fun c288 => ?_) (fun c288 => ?_)
        · refine at_iconst C (0 : Int32) dX7_could_60 (by decide) ?_
          refine at_ior C dX7_could_61 ?_
          refine at_istore_n C (lv' := [(3, .int (y3_32 ||| (0 : Int32))), (0, .ref (e_q E 30)), (1, .int x1), (2, .int x2), (4, .int y4_32)]) dX7_could_62 hn3 rfl ?_
          refine at_iinc C (v := (y4_32 + (1 : Int32))) (lv' := [(4, .int (y4_32 + (1 : Int32))), (3, .int (y3_32 ||| (0 : Int32))), (0, .ref (e_q E 30)), (1, .int x1), (2, .int x2)]) 4 dX7_could_63 rfl rfl hn4 rfl ?_
          refine at_goto C 32 dX7_could_66 (by decide) ?_
          exact at_sub [2, 3, 4, 1, 0] rfl (ih32 (y3_32 ||| (0 : Int32)) (y4_32 + (1 : Int32)) (mz_up hm32 (ac_ti1 f287 (iv_c (c := 1) (x := (1 : Int32)) (by decide)) (by decide) (by decide) (by decide)) (by decide) (iv_wk (iv_add f287 (iv_c (c := 1) (x := (1 : Int32)) (by decide)) (by decide) (by decide)) (by decide) (by decide) : iv 0 16 (y4_32 + (1 : Int32))).2) (show iv 0 1023 x1 from b1_32) (show iv 0 1023 x2 from b2_32) (show iv 0 2147483647 (y3_32 ||| (0 : Int32)) from (iv_or 31 b3_32 (iv_c (c := 0) (x := (0 : Int32)) (by decide)) (by decide) (by decide) (by decide))) (iv_wk (iv_add f287 (iv_c (c := 1) (x := (1 : Int32)) (by decide)) (by decide) (by decide)) (by decide) (by decide) : iv 0 16 (y4_32 + (1 : Int32))) (cf_z (iv_wk f287 (by decide) (by decide) : iv 0 15 y4_32) e0_32 c288) e1_32)
        · refine at_iconst C (1 : Int32) dX7_could_53 (by decide) ?_
          refine at_iload C 4 dX7_could_54 rfl ?_
          refine at_ishl C dX7_could_56 ?_
          refine at_goto C 61 dX7_could_57 (by decide) ?_
          refine at_ior C dX7_could_61 ?_
          refine at_istore_n C (lv' := [(3, .int (y3_32 ||| ((1 : Int32) <<< (y4_32 &&& 31)))), (0, .ref (e_q E 30)), (1, .int x1), (2, .int x2), (4, .int y4_32)]) dX7_could_62 hn3 rfl ?_
          refine at_iinc C (v := (y4_32 + (1 : Int32))) (lv' := [(4, .int (y4_32 + (1 : Int32))), (3, .int (y3_32 ||| ((1 : Int32) <<< (y4_32 &&& 31)))), (0, .ref (e_q E 30)), (1, .int x1), (2, .int x2)]) 4 dX7_could_63 rfl rfl hn4 rfl ?_
          refine at_goto C 32 dX7_could_66 (by decide) ?_
          exact at_sub [2, 3, 4, 1, 0] rfl (ih32 (y3_32 ||| ((1 : Int32) <<< (y4_32 &&& 31))) (y4_32 + (1 : Int32)) (mz_up hm32 (ac_ti1 f287 (iv_c (c := 1) (x := (1 : Int32)) (by decide)) (by decide) (by decide) (by decide)) (by decide) (iv_wk (iv_add f287 (iv_c (c := 1) (x := (1 : Int32)) (by decide)) (by decide) (by decide)) (by decide) (by decide) : iv 0 16 (y4_32 + (1 : Int32))).2) (show iv 0 1023 x1 from b1_32) (show iv 0 1023 x2 from b2_32) (show iv 0 2147483647 (y3_32 ||| ((1 : Int32) <<< (y4_32 &&& 31))) from (iv_or 31 b3_32 (iv_wk (c := 0) (iv_shl1 (a := 0) (b := 15) f287 (by decide)) (by decide) (Int.le_refl _)) (by decide) (by decide) (by decide))) (iv_wk (iv_add f287 (iv_c (c := 1) (x := (1 : Int32)) (by decide)) (by decide) (by decide)) (by decide) (by decide) : iv 0 16 (y4_32 + (1 : Int32))) (cf_y (iv_wk f287 (by decide) (by decide) : iv 0 15 y4_32) e0_32 c288) e1_32)
  refine at_aload_n C 0 dX7_could_0 rfl ?_
  refine at_iload_n C 1 dX7_could_1 rfl ?_
  refine at_Vi C (As := [.int x1]) (st := []) (b := 30) (ci := 7) (ct_X7_noSet σ x1 hI) mb_X7_noSet ml_X7_131 rfl rfl rfl (by decide) rfl (Nat.le_of_ble_eq_true rfl) dX7_could_2 ?_
  rintro _ _ ⟨rfl, ⟨rfl, c289⟩ | ⟨rfl, c289⟩⟩
  · refine at_if_ne C 24 dX7_could_5 (by decide) (fun c291 => ?_) (fun c291 => absurd c291 (iv_xeq (iv_c (c := 1) (x := (1 : Int32)) (by decide)) (iv_c (c := 0) (x := (0 : Int32)) (by decide)) (by decide)))
    refine at_bipush C (-2 : Int32) dX7_could_24 (by decide) ?_
    exact hR _ _ _ _ dX7_could_26 ⟨rfl, (iv_wk (iv_c (c := (-2)) (x := (-2 : Int32)) (by decide)) (by decide) (by decide) : iv (-2147483648) 2147483647 (-2 : Int32)), (Or.inr ⟨fun z => c289 z.1, rfl⟩)⟩
  · have f292 : iv 0 1023 x1 := (iv_of3 (Classical.not_not.mp c289) (iv_shl1 (a := 0) (b := 10) (show iv 0 10 (ac_gi σ 15) from hI.1 15) (by decide)))
    refine at_if_ne C 24 dX7_could_5 (by decide) (fun c293 => absurd (iv_xne (iv_c (c := 0) (x := (0 : Int32)) (by decide)) (iv_c (c := 0) (x := (0 : Int32)) (by decide))) c293) (fun c293 => ?_)
    refine at_aload_n C 0 dX7_could_8 rfl ?_
    refine at_iload_n C 2 dX7_could_9 rfl ?_
    refine at_Vi C (As := [.int x2]) (st := []) (b := 30) (ci := 7) (ct_X7_noSet σ x2 hI) mb_X7_noSet ml_X7_131 rfl rfl rfl (by decide) rfl (Nat.le_of_ble_eq_true rfl) dX7_could_10 ?_
    rintro _ _ ⟨rfl, ⟨rfl, c294⟩ | ⟨rfl, c294⟩⟩
    · refine at_if_ne C 24 dX7_could_13 (by decide) (fun c296 => ?_) (fun c296 => absurd c296 (iv_xeq (iv_c (c := 1) (x := (1 : Int32)) (by decide)) (iv_c (c := 0) (x := (0 : Int32)) (by decide)) (by decide)))
      refine at_bipush C (-2 : Int32) dX7_could_24 (by decide) ?_
      exact hR _ _ _ _ dX7_could_26 ⟨rfl, (iv_wk (iv_c (c := (-2)) (x := (-2 : Int32)) (by decide)) (by decide) (by decide) : iv (-2147483648) 2147483647 (-2 : Int32)), (Or.inr ⟨fun z => c294 z.2.1, rfl⟩)⟩
    · have f297 : iv 0 1023 x2 := (iv_of3 (Classical.not_not.mp c294) (iv_shl1 (a := 0) (b := 10) (show iv 0 10 (ac_gi σ 15) from hI.1 15) (by decide)))
      refine at_if_ne C 24 dX7_could_13 (by decide) (fun c298 => absurd (iv_xne (iv_c (c := 0) (x := (0 : Int32)) (by decide)) (iv_c (c := 0) (x := (0 : Int32)) (by decide))) c298) (fun c298 => ?_)
      refine at_iload_n C 2 dX7_could_16 rfl ?_
      refine at_iload_n C 1 dX7_could_17 rfl ?_
      refine at_iconst C (-1 : Int32) dX7_could_18 (by decide) ?_
      refine at_ixor C dX7_could_19 ?_
      refine at_iand C dX7_could_20 ?_
      refine at_if_eq C 27 dX7_could_21 (by decide) (fun c299 => ?_) (fun c299 => ?_)
      · have f300 : iv 0 0 (x2 &&& (x1 ^^^ (-1 : Int32))) := (iv_eql (iv_c (c := 0) (x := (0 : Int32)) (by decide)) c299)
        refine at_iconst C (0 : Int32) dX7_could_27 (by decide) ?_
        refine at_istore_n C (lv' := [(3, .int (0 : Int32)), (0, .ref (e_q E 30)), (1, .int x1), (2, .int x2)]) dX7_could_28 hn3 rfl ?_
        refine at_iconst C (0 : Int32) dX7_could_29 (by decide) ?_
        refine at_istore C (lv' := [(4, .int (0 : Int32)), (3, .int (0 : Int32)), (0, .ref (e_q E 30)), (1, .int x1), (2, .int x2)]) dX7_could_30 hn4 rfl ?_
        exact at_sub [2, 3, 4, 1, 0] rfl (K32 _ (0 : Int32) (0 : Int32) (Nat.lt_succ_self _) (show iv 0 1023 x1 from f292) (show iv 0 1023 x2 from f297) (iv_wk (iv_c (c := 0) (x := (0 : Int32)) (by decide)) (by decide) (by decide) : iv 0 2147483647 (0 : Int32)) (iv_wk (iv_c (c := 0) (x := (0 : Int32)) (by decide)) (by decide) (by decide) : iv 0 16 (0 : Int32)) rfl ⟨(Classical.not_not.mp c289), (Classical.not_not.mp c294), c299⟩)
      · have f301 : iv 1 1023 (x2 &&& (x1 ^^^ (-1 : Int32))) := (iv_nel (iv_andl f297) (by decide) c299)
        refine at_bipush C (-2 : Int32) dX7_could_24 (by decide) ?_
        exact hR _ _ _ _ dX7_could_26 ⟨rfl, (iv_wk (iv_c (c := (-2)) (x := (-2 : Int32)) (by decide)) (by decide) (by decide) : iv (-2147483648) 2147483647 (-2 : Int32)), (Or.inr ⟨fun z => c299 z.2.2, rfl⟩)⟩
set_option maxHeartbeats 4000000 in
set_option maxRecDepth 100000 in
theorem ct_X7_count (σ : SS) (x1 : Int32) (hI : Inv σ) : ConI yX7_count cX7_count 2 (some .int) 2 (some 30) [.int x1] σ (fun r σ' => σ = σ' ∧ iv (-2147483648) 2147483647 r ∧ (∃ o : Int32, (∀ j : Nat, tb o j = true ↔ ((j : Int) < (ac_gi σ 15).toInt ∧ ¬ ac_ga σ 36 j = 0)) ∧ cnt_p x1 r (ac_gi σ 15) (on_f o 16) (ac_gi σ 25) (ac_gi σ 26))) := by
  refine conI_of (by decide) (fun q => Nat.le_of_ble_eq_true rfl) (fun E C en hR => ?_)
  refine at_iload_n C 1 dX7_count_0 rfl ?_
  by_cases c780 : x1 = (0 : Int32)
  · refine at_tabIn C 32 dX7_count_1 (by rw [c780]; decide) (by rw [c780]; decide) (by rw [c780]; rfl) (by decide) ?_
    have f79 : iv 0 0 x1 := (iv_eql (iv_c (c := 0) (x := (0 : Int32)) (by decide)) c780)
    refine at_aload_n C 0 dX7_count_32 rfl ?_
    refine gf_X7_87 C dX7_count_33 ?_
    exact hR _ _ _ _ dX7_count_36 ⟨rfl, (iv_wk (show iv 0 10 (ac_gi σ 15) from hI.1 15) (by decide) (by decide) : iv (-2147483648) 2147483647 (ac_gi σ 15)), (by obtain ⟨o, ho⟩ := oldsx σ hI; exact ⟨o, ho, (Or.inl ⟨c780, rfl⟩)⟩)⟩
  by_cases c781 : x1 = (1 : Int32)
  · refine at_tabIn C 37 dX7_count_1 (by rw [c781]; decide) (by rw [c781]; decide) (by rw [c781]; rfl) (by decide) ?_
    have f80 : iv 1 1 x1 := (iv_eql (iv_c (c := 1) (x := (1 : Int32)) (by decide)) c781)
    refine at_aload_n C 0 dX7_count_37 rfl ?_
    refine at_Vi C (As := []) (st := []) (b := 30) (ci := 7) (ct_X7_olds σ hI) mb_X7_olds ml_X7_153 rfl rfl rfl (by decide) rfl (Nat.le_of_ble_eq_true rfl) dX7_count_38 ?_
    rintro r81 _ ⟨rfl, f82, mo83⟩
    refine at_Si C (As := [.int r81]) (st := []) (ct_X7_ones σ r81 hI) mb_X7_ones ml_X7_144 rfl (by decide) rfl (Nat.le_of_ble_eq_true rfl) dX7_count_41 ?_
    rintro r84 _ ⟨rfl, f85, mo86⟩
    exact hR _ _ _ _ dX7_count_44 ⟨rfl, (show iv (-2147483648) 2147483647 r84 from f85), ⟨r81, mo83, (Or.inr (Or.inl ⟨c781, mo86⟩))⟩⟩
  by_cases c782 : x1 = (2 : Int32)
  · refine at_tabIn C 45 dX7_count_1 (by rw [c782]; decide) (by rw [c782]; decide) (by rw [c782]; rfl) (by decide) ?_
    have f87 : iv 2 2 x1 := (iv_eql (iv_c (c := 2) (x := (2 : Int32)) (by decide)) c782)
    refine at_aload_n C 0 dX7_count_45 rfl ?_
    refine gf_X7_183 C dX7_count_46 ?_
    exact hR _ _ _ _ dX7_count_49 ⟨rfl, (iv_wk (show iv 0 6 (ac_gi σ 25) from hI.1 25) (by decide) (by decide) : iv (-2147483648) 2147483647 (ac_gi σ 25)), (by obtain ⟨o, ho⟩ := oldsx σ hI; exact ⟨o, ho, (Or.inr (Or.inr (Or.inl ⟨c782, rfl⟩)))⟩)⟩
  by_cases c783 : x1 = (3 : Int32)
  · refine at_tabIn C 50 dX7_count_1 (by rw [c783]; decide) (by rw [c783]; decide) (by rw [c783]; rfl) (by decide) ?_
    have f88 : iv 3 3 x1 := (iv_eql (iv_c (c := 3) (x := (3 : Int32)) (by decide)) c783)
    refine at_aload_n C 0 dX7_count_50 rfl ?_
    refine gf_X7_191 C dX7_count_51 ?_
    exact hR _ _ _ _ dX7_count_54 ⟨rfl, (iv_wk (show iv 0 24 (ac_gi σ 26) from hI.1 26) (by decide) (by decide) : iv (-2147483648) 2147483647 (ac_gi σ 26)), (by obtain ⟨o, ho⟩ := oldsx σ hI; exact ⟨o, ho, (Or.inr (Or.inr (Or.inr (Or.inl ⟨c783, rfl⟩))))⟩)⟩
  refine at_tabOut C 55 dX7_count_1 (tab_out (lo := 0) (hi := 3) (fun z1 z2 => by have := iv_ne c780; have := iv_ne c781; have := iv_ne c782; have := iv_ne c783; simp at *; omega)) (by decide) ?_
  refine at_bipush C (-2 : Int32) dX7_count_55 (by decide) ?_
  exact hR _ _ _ _ dX7_count_57 ⟨rfl, (iv_wk (iv_c (c := (-2)) (x := (-2 : Int32)) (by decide)) (by decide) (by decide) : iv (-2147483648) 2147483647 (-2 : Int32)), (by obtain ⟨o, ho⟩ := oldsx σ hI; exact ⟨o, ho, (Or.inr (Or.inr (Or.inr (Or.inr ⟨⟨c780, c781, c782, c783⟩, rfl⟩))))⟩)⟩
set_option maxHeartbeats 4000000 in
set_option maxRecDepth 100000 in
theorem ct_X7_add (σ : SS) (x1 : Int32) (hI : Inv σ) : ConV yX7_add cX7_add 2 none 0 (some 30) [.int x1] σ (fun σ' => Gd σ σ') := by
  refine conV_of (by decide) (fun q => Nat.le_of_ble_eq_true rfl) (fun E C en hR => ?_)
  have hG0 : Gd σ σ := Gd.rf hI
  refine at_aload_n C 0 dX7_add_0 rfl ?_
  refine at_ldc2 C (31 : Int64) dX7_add_1 kc_X7_233 ?_
  refine at_aload_n C 0 dX7_add_4 rfl ?_
  refine gf_X7_235 C dX7_add_5 ?_
  refine at_lmul C dX7_add_8 ?_
  refine at_iload_n C 1 dX7_add_9 rfl ?_
  refine at_i2l C dX7_add_10 ?_
  refine at_ladd C dX7_add_11 ?_
  refine pf_X7_235 C dX7_add_12 ?_
  have hG8 := Gd.sl (v := (((31 : Int64) * (ac_gl σ)) + (x1).toInt64)) hG0
  exact hR _ _ _ dX7_add_15 hG8
set_option maxHeartbeats 4000000 in
set_option maxRecDepth 100000 in
theorem ct_X7_digest (σ : SS) (hI : Inv σ) : ConL yX7_digest cX7_digest 3 (some .long) 5 (some 30) [] σ (fun r σ' => Gd σ σ') := by
  refine conL_of (by decide) (fun q => Nat.le_of_ble_eq_true rfl) (fun E C en hR => ?_)
  have hn1 : 1 < e_n E := by rw [en]; decide
  have hn2 : 2 < e_n E := by rw [en]; decide
  have hG0 : Gd σ σ := Gd.rf hI
  have K287 : ∀ (n287 : Nat) (y1_287 : Int32) (s287 : SS), (4 - (y1_287).toInt).toNat < n287 → iv 0 4 y1_287 → Gd σ s287 → AT E 287 [(0, .ref (e_q E 30)), (1, .int y1_287)] [] s287 := by
    intro n287
    induction n287 with
    | zero => intro y1_287 s287 hm; exact absurd hm (Nat.not_lt_zero _)
    | succ n287 ih287 =>
      intro y1_287 s287 hm287 b1_287 hG_287
      refine at_iload_n C 1 dX7_digest_287 rfl ?_
      refine at_iconst C (4 : Int32) dX7_digest_288 (by decide) ?_
      refine at_icmp_ge C 307 dX7_digest_289 (by decide) (fun c1771 => ?_) (fun c1771 => ?_)
      · have f1772 : iv 4 4 y1_287 := (iv_ler (iv_c (c := 4) (x := (4 : Int32)) (by decide)) b1_287 c1771)
        refine at_aload_n C 0 dX7_digest_307 rfl ?_
        refine gf_X7_235 C dX7_digest_308 ?_
        exact hR _ _ _ _ dX7_digest_311 hG_287
      · have f1773 : iv 0 3 y1_287 := (iv_ltl b1_287 (iv_c (c := 4) (x := (4 : Int32)) (by decide)) (Int32.not_le.mp c1771))
        refine at_aload_n C 0 dX7_digest_292 rfl ?_
        refine at_aload_n C 0 dX7_digest_293 rfl ?_
        refine at_iload_n C 1 dX7_digest_294 rfl ?_
        refine at_Vi C (As := [.int y1_287]) (st := [.ref (e_q E 30)]) (b := 30) (ci := 7) (ct_X7_run s287 y1_287 hG_287.1) mb_X7_run ml_X7_247 rfl rfl rfl (by decide) rfl (Nat.le_of_ble_eq_true rfl) dX7_digest_295 ?_
        rintro r1774 u1776 ⟨hg1777, f1775⟩
        have hG1778 := hG_287.tr hg1777
        refine at_Vv C (As := [.int r1774]) (st := []) (b := 30) (ci := 7) (ct_X7_add u1776 r1774 hg1777.1) mb_X7_add ml_X7_244 rfl rfl rfl (by decide) rfl (Nat.le_of_ble_eq_true rfl) dX7_digest_298 ?_
        rintro u1779 hg1780
        have hG1781 := hG1778.tr hg1780
        refine at_iinc C (v := (y1_287 + (1 : Int32))) (lv' := [(1, .int (y1_287 + (1 : Int32))), (0, .ref (e_q E 30))]) 1 dX7_digest_301 rfl rfl hn1 rfl ?_
        refine at_goto C 287 dX7_digest_304 (by decide) ?_
        exact at_sub [1, 0] rfl (ih287 (y1_287 + (1 : Int32)) u1779 (mz_up hm287 (ac_ti1 f1773 (iv_c (c := 1) (x := (1 : Int32)) (by decide)) (by decide) (by decide) (by decide)) (by decide) (iv_wk (iv_add f1773 (iv_c (c := 1) (x := (1 : Int32)) (by decide)) (by decide) (by decide)) (by decide) (by decide) : iv 0 4 (y1_287 + (1 : Int32))).2) (iv_wk (iv_add f1773 (iv_c (c := 1) (x := (1 : Int32)) (by decide)) (by decide) (by decide)) (by decide) (by decide) : iv 0 4 (y1_287 + (1 : Int32))) hG1781)
  have K263 : ∀ (n263 : Nat) (y1_263 : Int32) (s263 : SS), (16 - (y1_263).toInt).toNat < n263 → iv 0 16 y1_263 → Gd σ s263 → AT E 263 [(0, .ref (e_q E 30)), (1, .int y1_263)] [] s263 := by
    intro n263
    induction n263 with
    | zero => intro y1_263 s263 hm; exact absurd hm (Nat.not_lt_zero _)
    | succ n263 ih263 =>
      intro y1_263 s263 hm263 b1_263 hG_263
      refine at_iload_n C 1 dX7_digest_263 rfl ?_
      refine at_bipush C (16 : Int32) dX7_digest_264 (by decide) ?_
      refine at_icmp_ge C 285 dX7_digest_266 (by decide) (fun c1782 => ?_) (fun c1782 => ?_)
      · have f1783 : iv 16 16 y1_263 := (iv_ler (iv_c (c := 16) (x := (16 : Int32)) (by decide)) b1_263 c1782)
        refine at_iconst C (0 : Int32) dX7_digest_285 (by decide) ?_
        refine at_istore_n C (lv' := [(1, .int (0 : Int32)), (0, .ref (e_q E 30))]) dX7_digest_286 hn1 rfl ?_
        exact at_sub [1, 0] rfl (K287 _ (0 : Int32) s263 (Nat.lt_succ_self _) (iv_wk (iv_c (c := 0) (x := (0 : Int32)) (by decide)) (by decide) (by decide) : iv 0 4 (0 : Int32)) hG_263)
      · have f1784 : iv 0 15 y1_263 := (iv_ltl b1_263 (iv_c (c := 16) (x := (16 : Int32)) (by decide)) (Int32.not_le.mp c1782))
        refine at_aload_n C 0 dX7_digest_269 rfl ?_
        refine at_aload_n C 0 dX7_digest_270 rfl ?_
        refine gf_X7_84 C dX7_digest_271 ?_
        refine at_iload_n C 1 dX7_digest_274 rfl ?_
        refine at_iald C (c := 51) rfl (iv_in (n := 16) f1784 (by decide) (by decide)) dX7_digest_275 ?_
        refine at_Vv C (As := [.int (ac_ga s263 51 (y1_263).toNatClampNeg)]) (st := []) (b := 30) (ci := 7) (ct_X7_add s263 (ac_ga s263 51 (y1_263).toNatClampNeg) hG_263.1) mb_X7_add ml_X7_244 rfl rfl rfl (by decide) rfl (Nat.le_of_ble_eq_true rfl) dX7_digest_276 ?_
        rintro u1785 hg1786
        have hG1787 := hG_263.tr hg1786
        refine at_iinc C (v := (y1_263 + (1 : Int32))) (lv' := [(1, .int (y1_263 + (1 : Int32))), (0, .ref (e_q E 30))]) 1 dX7_digest_279 rfl rfl hn1 rfl ?_
        refine at_goto C 263 dX7_digest_282 (by decide) ?_
        exact at_sub [1, 0] rfl (ih263 (y1_263 + (1 : Int32)) u1785 (mz_up hm263 (ac_ti1 f1784 (iv_c (c := 1) (x := (1 : Int32)) (by decide)) (by decide) (by decide) (by decide)) (by decide) (iv_wk (iv_add f1784 (iv_c (c := 1) (x := (1 : Int32)) (by decide)) (by decide) (by decide)) (by decide) (by decide) : iv 0 16 (y1_263 + (1 : Int32))).2) (iv_wk (iv_add f1784 (iv_c (c := 1) (x := (1 : Int32)) (by decide)) (by decide) (by decide)) (by decide) (by decide) : iv 0 16 (y1_263 + (1 : Int32))) hG1787)
  have K237 : ∀ (n237 : Nat) (y1_237 : Int32) (s237 : SS), (6 - (y1_237).toInt).toNat < n237 → iv 0 6 y1_237 → Gd σ s237 → AT E 237 [(0, .ref (e_q E 30)), (1, .int y1_237)] [] s237 := by
    intro n237
    induction n237 with
    | zero => intro y1_237 s237 hm; exact absurd hm (Nat.not_lt_zero _)
    | succ n237 ih237 =>
      intro y1_237 s237 hm237 b1_237 hG_237
      refine at_iload_n C 1 dX7_digest_237 rfl ?_
      refine at_aload_n C 0 dX7_digest_238 rfl ?_
      refine gf_X7_183 C dX7_digest_239 ?_
      refine at_icmp_ge C 261 dX7_digest_242 (by decide) (fun c1788 => ?_) (fun c1788 => ?_)
      · refine at_iconst C (0 : Int32) dX7_digest_261 (by decide) ?_
        refine at_istore_n C (lv' := [(1, .int (0 : Int32)), (0, .ref (e_q E 30))]) dX7_digest_262 hn1 rfl ?_
        exact at_sub [1, 0] rfl (K263 _ (0 : Int32) s237 (Nat.lt_succ_self _) (iv_wk (iv_c (c := 0) (x := (0 : Int32)) (by decide)) (by decide) (by decide) : iv 0 16 (0 : Int32)) hG_237)
      · have f1789 : iv 0 5 y1_237 := (iv_ltl b1_237 (show iv 0 6 (ac_gi s237 25) from hG_237.1.1 25) (Int32.not_le.mp c1788))
        have f1790 : iv 1 6 (ac_gi s237 25) := (iv_ltr b1_237 (show iv 0 6 (ac_gi s237 25) from hG_237.1.1 25) (Int32.not_le.mp c1788))
        refine at_aload_n C 0 dX7_digest_245 rfl ?_
        refine at_aload_n C 0 dX7_digest_246 rfl ?_
        refine gf_X7_54 C dX7_digest_247 ?_
        refine at_iload_n C 1 dX7_digest_250 rfl ?_
        refine at_iald C (c := 41) rfl (iv_in (n := 6) f1789 (by decide) (by decide)) dX7_digest_251 ?_
        refine at_Vv C (As := [.int (ac_ga s237 41 (y1_237).toNatClampNeg)]) (st := []) (b := 30) (ci := 7) (ct_X7_add s237 (ac_ga s237 41 (y1_237).toNatClampNeg) hG_237.1) mb_X7_add ml_X7_244 rfl rfl rfl (by decide) rfl (Nat.le_of_ble_eq_true rfl) dX7_digest_252 ?_
        rintro u1791 hg1792
        have hG1793 := hG_237.tr hg1792
        refine at_iinc C (v := (y1_237 + (1 : Int32))) (lv' := [(1, .int (y1_237 + (1 : Int32))), (0, .ref (e_q E 30))]) 1 dX7_digest_255 rfl rfl hn1 rfl ?_
        refine at_goto C 237 dX7_digest_258 (by decide) ?_
        exact at_sub [1, 0] rfl (ih237 (y1_237 + (1 : Int32)) u1791 (mz_up hm237 (ac_ti1 f1789 (iv_c (c := 1) (x := (1 : Int32)) (by decide)) (by decide) (by decide) (by decide)) (by decide) (iv_wk (iv_add f1789 (iv_c (c := 1) (x := (1 : Int32)) (by decide)) (by decide) (by decide)) (by decide) (by decide) : iv 0 6 (y1_237 + (1 : Int32))).2) (iv_wk (iv_add f1789 (iv_c (c := 1) (x := (1 : Int32)) (by decide)) (by decide) (by decide)) (by decide) (by decide) : iv 0 6 (y1_237 + (1 : Int32))) hG1793)
  have K191 : ∀ (n191 : Nat) (y1_191 : Int32) (s191 : SS), (24 - (y1_191).toInt).toNat < n191 → iv 0 24 y1_191 → Gd σ s191 → AT E 191 [(0, .ref (e_q E 30)), (1, .int y1_191)] [] s191 := by
    intro n191
    induction n191 with
    | zero => intro y1_191 s191 hm; exact absurd hm (Nat.not_lt_zero _)
    | succ n191 ih191 =>
      intro y1_191 s191 hm191 b1_191 hG_191
      refine at_iload_n C 1 dX7_digest_191 rfl ?_
      refine at_aload_n C 0 dX7_digest_192 rfl ?_
      refine gf_X7_191 C dX7_digest_193 ?_
      refine at_icmp_ge C 235 dX7_digest_196 (by decide) (fun c1794 => ?_) (fun c1794 => ?_)
      · refine at_iconst C (0 : Int32) dX7_digest_235 (by decide) ?_
        refine at_istore_n C (lv' := [(1, .int (0 : Int32)), (0, .ref (e_q E 30))]) dX7_digest_236 hn1 rfl ?_
        exact at_sub [1, 0] rfl (K237 _ (0 : Int32) s191 (Nat.lt_succ_self _) (iv_wk (iv_c (c := 0) (x := (0 : Int32)) (by decide)) (by decide) (by decide) : iv 0 6 (0 : Int32)) hG_191)
      · have f1795 : iv 0 23 y1_191 := (iv_ltl b1_191 (show iv 0 24 (ac_gi s191 26) from hG_191.1.1 26) (Int32.not_le.mp c1794))
        have f1796 : iv 1 24 (ac_gi s191 26) := (iv_ltr b1_191 (show iv 0 24 (ac_gi s191 26) from hG_191.1.1 26) (Int32.not_le.mp c1794))
        refine at_aload_n C 0 dX7_digest_199 rfl ?_
        refine at_aload_n C 0 dX7_digest_200 rfl ?_
        refine gf_X7_57 C dX7_digest_201 ?_
        refine at_iload_n C 1 dX7_digest_204 rfl ?_
        refine at_iald C (c := 42) rfl (iv_in (n := 24) f1795 (by decide) (by decide)) dX7_digest_205 ?_
        refine at_Vv C (As := [.int (ac_ga s191 42 (y1_191).toNatClampNeg)]) (st := []) (b := 30) (ci := 7) (ct_X7_add s191 (ac_ga s191 42 (y1_191).toNatClampNeg) hG_191.1) mb_X7_add ml_X7_244 rfl rfl rfl (by decide) rfl (Nat.le_of_ble_eq_true rfl) dX7_digest_206 ?_
        rintro u1797 hg1798
        have hG1799 := hG_191.tr hg1798
        refine at_aload_n C 0 dX7_digest_209 rfl ?_
        refine at_aload_n C 0 dX7_digest_210 rfl ?_
        refine gf_X7_60 C dX7_digest_211 ?_
        refine at_iload_n C 1 dX7_digest_214 rfl ?_
        refine at_iald C (c := 43) rfl (iv_in (n := 24) f1795 (by decide) (by decide)) dX7_digest_215 ?_
        refine at_Vv C (As := [.int (ac_ga u1797 43 (y1_191).toNatClampNeg)]) (st := []) (b := 30) (ci := 7) (ct_X7_add u1797 (ac_ga u1797 43 (y1_191).toNatClampNeg) hg1798.1) mb_X7_add ml_X7_244 rfl rfl rfl (by decide) rfl (Nat.le_of_ble_eq_true rfl) dX7_digest_216 ?_
        rintro u1800 hg1801
        have hG1802 := hG1799.tr hg1801
        refine at_aload_n C 0 dX7_digest_219 rfl ?_
        refine at_aload_n C 0 dX7_digest_220 rfl ?_
        refine gf_X7_63 C dX7_digest_221 ?_
        refine at_iload_n C 1 dX7_digest_224 rfl ?_
        refine at_iald C (c := 44) rfl (iv_in (n := 24) f1795 (by decide) (by decide)) dX7_digest_225 ?_
        refine at_Vv C (As := [.int (ac_ga u1800 44 (y1_191).toNatClampNeg)]) (st := []) (b := 30) (ci := 7) (ct_X7_add u1800 (ac_ga u1800 44 (y1_191).toNatClampNeg) hg1801.1) mb_X7_add ml_X7_244 rfl rfl rfl (by decide) rfl (Nat.le_of_ble_eq_true rfl) dX7_digest_226 ?_
        rintro u1803 hg1804
        have hG1805 := hG1802.tr hg1804
        refine at_iinc C (v := (y1_191 + (1 : Int32))) (lv' := [(1, .int (y1_191 + (1 : Int32))), (0, .ref (e_q E 30))]) 1 dX7_digest_229 rfl rfl hn1 rfl ?_
        refine at_goto C 191 dX7_digest_232 (by decide) ?_
        exact at_sub [1, 0] rfl (ih191 (y1_191 + (1 : Int32)) u1803 (mz_up hm191 (ac_ti1 f1795 (iv_c (c := 1) (x := (1 : Int32)) (by decide)) (by decide) (by decide) (by decide)) (by decide) (iv_wk (iv_add f1795 (iv_c (c := 1) (x := (1 : Int32)) (by decide)) (by decide) (by decide)) (by decide) (by decide) : iv 0 24 (y1_191 + (1 : Int32))).2) (iv_wk (iv_add f1795 (iv_c (c := 1) (x := (1 : Int32)) (by decide)) (by decide) (by decide)) (by decide) (by decide) : iv 0 24 (y1_191 + (1 : Int32))) hG1805)
  have K63 : ∀ (n63 : Nat) (y1_63 : Int32) (s63 : SS), (10 - (y1_63).toInt).toNat < n63 → iv 0 10 y1_63 → Gd σ s63 → AT E 63 [(0, .ref (e_q E 30)), (1, .int y1_63)] [] s63 := by
    intro n63
    induction n63 with
    | zero => intro y1_63 s63 hm; exact absurd hm (Nat.not_lt_zero _)
    | succ n63 ih63 =>
      intro y1_63 s63 hm63 b1_63 hG_63
      have K160 : ∀ (z0_160 : Int32) (s160 : SS), iv 0 9 y1_63 → iv (-2147483648) 2147483647 z0_160 → Gd σ s160 → AT E 160 [(0, .ref (e_q E 30)), (1, .int y1_63)] [.int z0_160, .ref (e_q E 30)] s160 := by
        intro z0_160 s160 b1_160 bz0_160 hG_160
        refine at_Vv C (As := [.int z0_160]) (st := []) (b := 30) (ci := 7) (ct_X7_add s160 z0_160 hG_160.1) mb_X7_add ml_X7_244 rfl rfl rfl (by decide) rfl (Nat.le_of_ble_eq_true rfl) dX7_digest_160 ?_
        rintro u1806 hg1807
        have hG1808 := hG_160.tr hg1807
        refine at_aload_n C 0 dX7_digest_163 rfl ?_
        refine at_aload_n C 0 dX7_digest_164 rfl ?_
        refine gf_X7_75 C dX7_digest_165 ?_
        refine at_iload_n C 1 dX7_digest_168 rfl ?_
        refine at_iald C (c := 48) rfl (iv_in (n := 10) b1_160 (by decide) (by decide)) dX7_digest_169 ?_
        refine at_Vv C (As := [.int (ac_ga u1806 48 (y1_63).toNatClampNeg)]) (st := []) (b := 30) (ci := 7) (ct_X7_add u1806 (ac_ga u1806 48 (y1_63).toNatClampNeg) hg1807.1) mb_X7_add ml_X7_244 rfl rfl rfl (by decide) rfl (Nat.le_of_ble_eq_true rfl) dX7_digest_170 ?_
        rintro u1809 hg1810
        have hG1811 := hG1808.tr hg1810
        refine at_aload_n C 0 dX7_digest_173 rfl ?_
        refine at_aload_n C 0 dX7_digest_174 rfl ?_
        refine gf_X7_78 C dX7_digest_175 ?_
        refine at_iload_n C 1 dX7_digest_178 rfl ?_
        refine at_iald C (c := 49) rfl (iv_in (n := 10) b1_160 (by decide) (by decide)) dX7_digest_179 ?_
        refine at_Vv C (As := [.int (ac_ga u1809 49 (y1_63).toNatClampNeg)]) (st := []) (b := 30) (ci := 7) (ct_X7_add u1809 (ac_ga u1809 49 (y1_63).toNatClampNeg) hg1810.1) mb_X7_add ml_X7_244 rfl rfl rfl (by decide) rfl (Nat.le_of_ble_eq_true rfl) dX7_digest_180 ?_
        rintro u1812 hg1813
        have hG1814 := hG1811.tr hg1813
        refine at_iinc C (v := (y1_63 + (1 : Int32))) (lv' := [(1, .int (y1_63 + (1 : Int32))), (0, .ref (e_q E 30))]) 1 dX7_digest_183 rfl rfl hn1 rfl ?_
        refine at_goto C 63 dX7_digest_186 (by decide) ?_
        exact at_sub [1, 0] rfl (ih63 (y1_63 + (1 : Int32)) u1812 (mz_up hm63 (ac_ti1 b1_160 (iv_c (c := 1) (x := (1 : Int32)) (by decide)) (by decide) (by decide) (by decide)) (by decide) (iv_wk (iv_add b1_160 (iv_c (c := 1) (x := (1 : Int32)) (by decide)) (by decide) (by decide)) (by decide) (by decide) : iv 0 10 (y1_63 + (1 : Int32))).2) (iv_wk (iv_add b1_160 (iv_c (c := 1) (x := (1 : Int32)) (by decide)) (by decide) (by decide)) (by decide) (by decide) : iv 0 10 (y1_63 + (1 : Int32))) hG1814)
      have K137 : ∀ (z0_137 : Int32) (s137 : SS), iv 0 9 y1_63 → iv (-2147483648) 2147483647 z0_137 → Gd σ s137 → AT E 137 [(0, .ref (e_q E 30)), (1, .int y1_63)] [.int z0_137, .ref (e_q E 30)] s137 := by
        intro z0_137 s137 b1_137 bz0_137 hG_137
        refine at_Vv C (As := [.int z0_137]) (st := []) (b := 30) (ci := 7) (ct_X7_add s137 z0_137 hG_137.1) mb_X7_add ml_X7_244 rfl rfl rfl (by decide) rfl (Nat.le_of_ble_eq_true rfl) dX7_digest_137 ?_
        rintro u1815 hg1816
        have hG1817 := hG_137.tr hg1816
        refine at_aload_n C 0 dX7_digest_140 rfl ?_
        refine at_aload_n C 0 dX7_digest_141 rfl ?_
        refine gf_X7_33 C dX7_digest_142 ?_
        refine at_iload_n C 1 dX7_digest_145 rfl ?_
        refine at_zald C (c := 36) rfl (iv_in (n := 10) b1_137 (by decide) (by decide)) dX7_digest_146 ?_
        refine at_if_eq C 159 dX7_digest_147 (by decide) (fun c1818 => ?_) (fun c1818 => ?_)
        · have f1819 : iv 0 0 (ac_ga u1815 36 (y1_63).toNatClampNeg) := (iv_eql (iv_c (c := 0) (x := (0 : Int32)) (by decide)) c1818)
          refine at_iconst C (0 : Int32) dX7_digest_159 (by decide) ?_
          exact at_sub [0, 1] rfl (K160 (0 : Int32) u1815 (show iv 0 9 y1_63 from b1_137) (iv_wk (iv_c (c := 0) (x := (0 : Int32)) (by decide)) (by decide) (by decide) : iv (-2147483648) 2147483647 (0 : Int32)) hG1817)
        · refine at_aload_n C 0 dX7_digest_150 rfl ?_
          refine gf_X7_39 C dX7_digest_151 ?_
          refine at_iload_n C 1 dX7_digest_154 rfl ?_
          refine at_iald C (c := 38) rfl (iv_in (n := 10) b1_137 (by decide) (by decide)) dX7_digest_155 ?_
          refine at_goto C 160 dX7_digest_156 (by decide) ?_
          exact at_sub [0, 1] rfl (K160 (ac_ga u1815 38 (y1_63).toNatClampNeg) u1815 (show iv 0 9 y1_63 from b1_137) (show iv (-2147483648) 2147483647 (ac_ga u1815 38 (y1_63).toNatClampNeg) from (iv_any (ac_ga u1815 38 (y1_63).toNatClampNeg))) hG1817)
      have K83 : ∀ (n83 : Nat) (y2_83 : Int32) (s83 : SS), (10 - (y2_83).toInt).toNat < n83 → iv 0 9 y1_63 → iv 0 10 y2_83 → Gd σ s83 → AT E 83 [(0, .ref (e_q E 30)), (1, .int y1_63), (2, .int y2_83)] [] s83 := by
        intro n83
        induction n83 with
        | zero => intro y2_83 s83 hm; exact absurd hm (Nat.not_lt_zero _)
        | succ n83 ih83 =>
          intro y2_83 s83 hm83 b1_83 b2_83 hG_83
          refine at_iload_n C 2 dX7_digest_83 rfl ?_
          refine at_aload_n C 0 dX7_digest_84 rfl ?_
          refine gf_X7_87 C dX7_digest_85 ?_
          refine at_icmp_ge C 117 dX7_digest_88 (by decide) (fun c1820 => ?_) (fun c1820 => ?_)
          · refine at_aload_n C 0 dX7_digest_117 rfl ?_
            refine at_aload_n C 0 dX7_digest_118 rfl ?_
            refine gf_X7_33 C dX7_digest_119 ?_
            refine at_iload_n C 1 dX7_digest_122 rfl ?_
            refine at_zald C (c := 36) rfl (iv_in (n := 10) b1_83 (by decide) (by decide)) dX7_digest_123 ?_
            refine at_if_eq C 136 dX7_digest_124 (by decide) (fun c1821 => ?_) (fun c1821 => ?_)
            · have f1822 : iv 0 0 (ac_ga s83 36 (y1_63).toNatClampNeg) := (iv_eql (iv_c (c := 0) (x := (0 : Int32)) (by decide)) c1821)
              refine at_iconst C (0 : Int32) dX7_digest_136 (by decide) ?_
              exact at_sub [0, 1] rfl (K137 (0 : Int32) s83 (show iv 0 9 y1_63 from b1_83) (iv_wk (iv_c (c := 0) (x := (0 : Int32)) (by decide)) (by decide) (by decide) : iv (-2147483648) 2147483647 (0 : Int32)) hG_83)
            · refine at_aload_n C 0 dX7_digest_127 rfl ?_
              refine gf_X7_36 C dX7_digest_128 ?_
              refine at_iload_n C 1 dX7_digest_131 rfl ?_
              refine at_iald C (c := 37) rfl (iv_in (n := 10) b1_83 (by decide) (by decide)) dX7_digest_132 ?_
              refine at_goto C 137 dX7_digest_133 (by decide) ?_
              exact at_sub [0, 1] rfl (K137 (ac_ga s83 37 (y1_63).toNatClampNeg) s83 (show iv 0 9 y1_63 from b1_83) (show iv (-2147483648) 2147483647 (ac_ga s83 37 (y1_63).toNatClampNeg) from (iv_any (ac_ga s83 37 (y1_63).toNatClampNeg))) hG_83)
          · have f1823 : iv 0 9 y2_83 := (iv_ltl b2_83 (show iv 0 10 (ac_gi s83 15) from hG_83.1.1 15) (Int32.not_le.mp c1820))
            have f1824 : iv 1 10 (ac_gi s83 15) := (iv_ltr b2_83 (show iv 0 10 (ac_gi s83 15) from hG_83.1.1 15) (Int32.not_le.mp c1820))
            refine at_iload_n C 2 dX7_digest_91 rfl ?_
            refine at_iload_n C 1 dX7_digest_92 rfl ?_
            refine at_icmp_eq C 111 dX7_digest_93 (by decide) (fun c1825 => ?_) (fun c1825 => ?_)
            · refine at_iinc C (v := (y2_83 + (1 : Int32))) (lv' := [(2, .int (y2_83 + (1 : Int32))), (0, .ref (e_q E 30)), (1, .int y1_63)]) 2 dX7_digest_111 rfl rfl hn2 rfl ?_
              refine at_goto C 83 dX7_digest_114 (by decide) ?_
              exact at_sub [1, 2, 0] rfl (ih83 (y2_83 + (1 : Int32)) s83 (mz_up hm83 (ac_ti1 f1823 (iv_c (c := 1) (x := (1 : Int32)) (by decide)) (by decide) (by decide) (by decide)) (by decide) (iv_wk (iv_add f1823 (iv_c (c := 1) (x := (1 : Int32)) (by decide)) (by decide) (by decide)) (by decide) (by decide) : iv 0 10 (y2_83 + (1 : Int32))).2) (show iv 0 9 y1_63 from b1_83) (iv_wk (iv_add f1823 (iv_c (c := 1) (x := (1 : Int32)) (by decide)) (by decide) (by decide)) (by decide) (by decide) : iv 0 10 (y2_83 + (1 : Int32))) hG_83)
            · refine at_aload_n C 0 dX7_digest_96 rfl ?_
              refine at_aload_n C 0 dX7_digest_97 rfl ?_
              refine gf_X7_16 C dX7_digest_98 ?_
              refine at_bipush C (10 : Int32) dX7_digest_101 (by decide) ?_
              refine at_iload_n C 1 dX7_digest_103 rfl ?_
              refine at_imul C dX7_digest_104 ?_
              refine at_iload_n C 2 dX7_digest_105 rfl ?_
              refine at_iadd C dX7_digest_106 ?_
              refine at_iald C (c := 31) rfl (iv_in (n := 100) (iv_add (iv_mul (iv_wk (c := 0) (iv_c (c := 10) (x := (10 : Int32)) (by decide)) (by decide) (Int.le_refl _)) b1_83 (by decide)) f1823 (by decide) (by decide)) (by decide) (by decide)) dX7_digest_107 ?_
              refine at_Vv C (As := [.int (ac_ga s83 31 ((((10 : Int32) * y1_63) + y2_83)).toNatClampNeg)]) (st := []) (b := 30) (ci := 7) (ct_X7_add s83 (ac_ga s83 31 ((((10 : Int32) * y1_63) + y2_83)).toNatClampNeg) hG_83.1) mb_X7_add ml_X7_244 rfl rfl rfl (by decide) rfl (Nat.le_of_ble_eq_true rfl) dX7_digest_108 ?_
              rintro u1826 hg1827
              have hG1828 := hG_83.tr hg1827
              refine at_iinc C (v := (y2_83 + (1 : Int32))) (lv' := [(2, .int (y2_83 + (1 : Int32))), (0, .ref (e_q E 30)), (1, .int y1_63)]) 2 dX7_digest_111 rfl rfl hn2 rfl ?_
              refine at_goto C 83 dX7_digest_114 (by decide) ?_
              exact at_sub [1, 2, 0] rfl (ih83 (y2_83 + (1 : Int32)) u1826 (mz_up hm83 (ac_ti1 f1823 (iv_c (c := 1) (x := (1 : Int32)) (by decide)) (by decide) (by decide) (by decide)) (by decide) (iv_wk (iv_add f1823 (iv_c (c := 1) (x := (1 : Int32)) (by decide)) (by decide) (by decide)) (by decide) (by decide) : iv 0 10 (y2_83 + (1 : Int32))).2) (show iv 0 9 y1_63 from b1_83) (iv_wk (iv_add f1823 (iv_c (c := 1) (x := (1 : Int32)) (by decide)) (by decide) (by decide)) (by decide) (by decide) : iv 0 10 (y2_83 + (1 : Int32))) hG1828)
      refine at_iload_n C 1 dX7_digest_63 rfl ?_
      refine at_aload_n C 0 dX7_digest_64 rfl ?_
      refine gf_X7_87 C dX7_digest_65 ?_
      refine at_icmp_ge C 189 dX7_digest_68 (by decide) (fun c1829 => ?_) (fun c1829 => ?_)
      · refine at_iconst C (0 : Int32) dX7_digest_189 (by decide) ?_
        refine at_istore_n C (lv' := [(1, .int (0 : Int32)), (0, .ref (e_q E 30))]) dX7_digest_190 hn1 rfl ?_
        exact at_sub [1, 0] rfl (K191 _ (0 : Int32) s63 (Nat.lt_succ_self _) (iv_wk (iv_c (c := 0) (x := (0 : Int32)) (by decide)) (by decide) (by decide) : iv 0 24 (0 : Int32)) hG_63)
      · have f1830 : iv 0 9 y1_63 := (iv_ltl b1_63 (show iv 0 10 (ac_gi s63 15) from hG_63.1.1 15) (Int32.not_le.mp c1829))
        have f1831 : iv 1 10 (ac_gi s63 15) := (iv_ltr b1_63 (show iv 0 10 (ac_gi s63 15) from hG_63.1.1 15) (Int32.not_le.mp c1829))
        refine at_aload_n C 0 dX7_digest_71 rfl ?_
        refine at_aload_n C 0 dX7_digest_72 rfl ?_
        refine gf_X7_20 C dX7_digest_73 ?_
        refine at_iload_n C 1 dX7_digest_76 rfl ?_
        refine at_iald C (c := 32) rfl (iv_in (n := 10) f1830 (by decide) (by decide)) dX7_digest_77 ?_
        refine at_Vv C (As := [.int (ac_ga s63 32 (y1_63).toNatClampNeg)]) (st := []) (b := 30) (ci := 7) (ct_X7_add s63 (ac_ga s63 32 (y1_63).toNatClampNeg) hG_63.1) mb_X7_add ml_X7_244 rfl rfl rfl (by decide) rfl (Nat.le_of_ble_eq_true rfl) dX7_digest_78 ?_
        rintro u1832 hg1833
        have hG1834 := hG_63.tr hg1833
        refine at_iconst C (0 : Int32) dX7_digest_81 (by decide) ?_
        refine at_istore_n C (lv' := [(2, .int (0 : Int32)), (0, .ref (e_q E 30)), (1, .int y1_63)]) dX7_digest_82 hn2 rfl ?_
        exact at_sub [1, 2, 0] rfl (K83 _ (0 : Int32) u1832 (Nat.lt_succ_self _) (show iv 0 9 y1_63 from f1830) (iv_wk (iv_c (c := 0) (x := (0 : Int32)) (by decide)) (by decide) (by decide) : iv 0 10 (0 : Int32)) hG1834)
  have K9 : ∀ (n9 : Nat) (y1_9 : Int32) (s9 : SS), (4 - (y1_9).toInt).toNat < n9 → iv 0 4 y1_9 → Gd σ s9 → AT E 9 [(0, .ref (e_q E 30)), (1, .int y1_9)] [] s9 := by
    intro n9
    induction n9 with
    | zero => intro y1_9 s9 hm; exact absurd hm (Nat.not_lt_zero _)
    | succ n9 ih9 =>
      intro y1_9 s9 hm9 b1_9 hG_9
      refine at_iload_n C 1 dX7_digest_9 rfl ?_
      refine at_iconst C (4 : Int32) dX7_digest_10 (by decide) ?_
      refine at_icmp_ge C 29 dX7_digest_11 (by decide) (fun c1835 => ?_) (fun c1835 => ?_)
      · have f1836 : iv 4 4 y1_9 := (iv_ler (iv_c (c := 4) (x := (4 : Int32)) (by decide)) b1_9 c1835)
        refine at_aload_n C 0 dX7_digest_29 rfl ?_
        refine at_aload_n C 0 dX7_digest_30 rfl ?_
        refine gf_X7_7 C dX7_digest_31 ?_
        refine at_Vv C (As := [.int (ac_gi s9 16)]) (st := []) (b := 30) (ci := 7) (ct_X7_add s9 (ac_gi s9 16) hG_9.1) mb_X7_add ml_X7_244 rfl rfl rfl (by decide) rfl (Nat.le_of_ble_eq_true rfl) dX7_digest_34 ?_
        rintro u1837 hg1838
        have hG1839 := hG_9.tr hg1838
        refine at_aload_n C 0 dX7_digest_37 rfl ?_
        refine at_aload_n C 0 dX7_digest_38 rfl ?_
        refine gf_X7_13 C dX7_digest_39 ?_
        refine at_Vv C (As := [.int (ac_gi u1837 17)]) (st := []) (b := 30) (ci := 7) (ct_X7_add u1837 (ac_gi u1837 17) hg1838.1) mb_X7_add ml_X7_244 rfl rfl rfl (by decide) rfl (Nat.le_of_ble_eq_true rfl) dX7_digest_42 ?_
        rintro u1840 hg1841
        have hG1842 := hG1839.tr hg1841
        refine at_aload_n C 0 dX7_digest_45 rfl ?_
        refine at_aload_n C 0 dX7_digest_46 rfl ?_
        refine gf_X7_42 C dX7_digest_47 ?_
        refine at_Vv C (As := [.int (ac_gi u1840 20)]) (st := []) (b := 30) (ci := 7) (ct_X7_add u1840 (ac_gi u1840 20) hg1841.1) mb_X7_add ml_X7_244 rfl rfl rfl (by decide) rfl (Nat.le_of_ble_eq_true rfl) dX7_digest_50 ?_
        rintro u1843 hg1844
        have hG1845 := hG1842.tr hg1844
        refine at_aload_n C 0 dX7_digest_53 rfl ?_
        refine at_aload_n C 0 dX7_digest_54 rfl ?_
        refine gf_X7_45 C dX7_digest_55 ?_
        refine at_Vv C (As := [.int (ac_gi u1843 21)]) (st := []) (b := 30) (ci := 7) (ct_X7_add u1843 (ac_gi u1843 21) hg1844.1) mb_X7_add ml_X7_244 rfl rfl rfl (by decide) rfl (Nat.le_of_ble_eq_true rfl) dX7_digest_58 ?_
        rintro u1846 hg1847
        have hG1848 := hG1845.tr hg1847
        refine at_iconst C (0 : Int32) dX7_digest_61 (by decide) ?_
        refine at_istore_n C (lv' := [(1, .int (0 : Int32)), (0, .ref (e_q E 30))]) dX7_digest_62 hn1 rfl ?_
        exact at_sub [1, 0] rfl (K63 _ (0 : Int32) u1846 (Nat.lt_succ_self _) (iv_wk (iv_c (c := 0) (x := (0 : Int32)) (by decide)) (by decide) (by decide) : iv 0 10 (0 : Int32)) hG1848)
      · have f1849 : iv 0 3 y1_9 := (iv_ltl b1_9 (iv_c (c := 4) (x := (4 : Int32)) (by decide)) (Int32.not_le.mp c1835))
        refine at_aload_n C 0 dX7_digest_14 rfl ?_
        refine at_aload_n C 0 dX7_digest_15 rfl ?_
        refine at_iload_n C 1 dX7_digest_16 rfl ?_
        refine at_Vi C (As := [.int y1_9]) (st := [.ref (e_q E 30)]) (b := 30) (ci := 7) (ct_X7_count s9 y1_9 hG_9.1) mb_X7_count ml_X7_241 rfl rfl rfl (by decide) rfl (Nat.le_of_ble_eq_true rfl) dX7_digest_17 ?_
        rintro r1850 _ ⟨rfl, f1851, mo1852⟩
        refine at_Vv C (As := [.int r1850]) (st := []) (b := 30) (ci := 7) (ct_X7_add s9 r1850 hG_9.1) mb_X7_add ml_X7_244 rfl rfl rfl (by decide) rfl (Nat.le_of_ble_eq_true rfl) dX7_digest_20 ?_
        rintro u1853 hg1854
        have hG1855 := hG_9.tr hg1854
        refine at_iinc C (v := (y1_9 + (1 : Int32))) (lv' := [(1, .int (y1_9 + (1 : Int32))), (0, .ref (e_q E 30))]) 1 dX7_digest_23 rfl rfl hn1 rfl ?_
        refine at_goto C 9 dX7_digest_26 (by decide) ?_
        exact at_sub [1, 0] rfl (ih9 (y1_9 + (1 : Int32)) u1853 (mz_up hm9 (ac_ti1 f1849 (iv_c (c := 1) (x := (1 : Int32)) (by decide)) (by decide) (by decide) (by decide)) (by decide) (iv_wk (iv_add f1849 (iv_c (c := 1) (x := (1 : Int32)) (by decide)) (by decide) (by decide)) (by decide) (by decide) : iv 0 4 (y1_9 + (1 : Int32))).2) (iv_wk (iv_add f1849 (iv_c (c := 1) (x := (1 : Int32)) (by decide)) (by decide) (by decide)) (by decide) (by decide) : iv 0 4 (y1_9 + (1 : Int32))) hG1855)
  refine at_aload_n C 0 dX7_digest_0 rfl ?_
  refine at_ldc2 C (401 : Int64) dX7_digest_1 kc_X7_239 ?_
  refine pf_X7_235 C dX7_digest_4 ?_
  have hG1856 := Gd.sl (v := (401 : Int64)) hG0
  refine at_iconst C (0 : Int32) dX7_digest_7 (by decide) ?_
  refine at_istore_n C (lv' := [(1, .int (0 : Int32)), (0, .ref (e_q E 30))]) dX7_digest_8 hn1 rfl ?_
  exact at_sub [1, 0] rfl (K9 _ (0 : Int32) (ac_sl σ (401 : Int64)) (Nat.lt_succ_self _) (iv_wk (iv_c (c := 0) (x := (0 : Int32)) (by decide)) (by decide) (by decide) : iv 0 4 (0 : Int32)) hG1856)
