set_option maxHeartbeats 4000000 in
set_option maxRecDepth 100000 in
theorem ct_X3_mostShut (σ : SS) (x1 : Int32) (x2 : Int32) (hI : Inv σ) : ConI yX3_mostShut cX3_mostShut 6 (some .int) 2 (some 3) [.int x1, .int x2] σ (fun r σ' => σ = σ' ∧ iv (-2147483648) 2147483647 r) := by
  refine conI_of (by decide) (fun q => Nat.le_of_ble_eq_true rfl) (fun E C en hR => ?_)
  have hn3 : 3 < e_n E := by rw [en]; decide
  have hn4 : 4 < e_n E := by rw [en]; decide
  have hn5 : 5 < e_n E := by rw [en]; decide
  have K5 : ∀ (n5 : Nat) (y3_5 : Int32) (y4_5 : Int32), (10 - (y4_5).toInt).toNat < n5 → iv (-2147483648) 2147483647 y3_5 → iv 0 10 y4_5 → AT E 5 [(0, .ref (e_q E 3)), (1, .int x1), (2, .int x2), (3, .int y3_5), (4, .int y4_5)] [] σ := by
    intro n5
    induction n5 with
    | zero => intro y3_5 y4_5 hm; exact absurd hm (Nat.not_lt_zero _)
    | succ n5 ih5 =>
      intro y3_5 y4_5 hm5 b3_5 b4_5
      refine at_iload C 4 dX3_mostShut_5 rfl ?_
      refine at_aload_n C 0 dX3_mostShut_7 rfl ?_
      refine gf_X3_21 C dX3_mostShut_8 ?_
      refine gf_X3_57 C dX3_mostShut_11 ?_
      refine at_icmp_ge C 59 dX3_mostShut_14 (by decide) (fun c385 => ?_) (fun c385 => ?_)
      · refine at_iload_n C 3 dX3_mostShut_59 rfl ?_
        exact hR _ _ _ _ dX3_mostShut_60 ⟨rfl, (show iv (-2147483648) 2147483647 y3_5 from b3_5)⟩
      · have f386 : iv 0 9 y4_5 := (iv_ltl b4_5 (show iv 0 10 (ac_gi σ 0) from hI.1 0) (Int32.not_le.mp c385))
        have f387 : iv 1 10 (ac_gi σ 0) := (iv_ltr b4_5 (show iv 0 10 (ac_gi σ 0) from hI.1 0) (Int32.not_le.mp c385))
        refine at_iload_n C 2 dX3_mostShut_17 rfl ?_
        refine at_iload C 4 dX3_mostShut_18 rfl ?_
        refine at_Ni C (As := [.int x2, .int y4_5]) (st := []) (ct_X6_has σ x2 y4_5) mb_X6_has ml_X3_40 rfl (by decide) rfl (Nat.le_of_ble_eq_true rfl) dX3_mostShut_20 ?_
        rintro _ _ ⟨rfl, ⟨rfl, c388⟩ | ⟨rfl, c388⟩⟩
        · refine at_if_eq C 53 dX3_mostShut_23 (by decide) (fun c390 => absurd c390 (iv_xeq (iv_c (c := 1) (x := (1 : Int32)) (by decide)) (iv_c (c := 0) (x := (0 : Int32)) (by decide)) (by decide))) (fun c390 => ?_)
          refine at_aload_n C 0 dX3_mostShut_26 rfl ?_
          refine gf_X3_21 C dX3_mostShut_27 ?_
          refine at_iload_n C 1 dX3_mostShut_30 rfl ?_
          refine at_iload C 4 dX3_mostShut_31 rfl ?_
          refine at_Vi C (As := [.int x1, .int y4_5]) (st := []) (b := 1) (ci := 0) (ct_X0_pairOf σ x1 y4_5 hI) mb_X0_pairOf ml_X3_77 rfl rfl rfl (by decide) rfl (Nat.le_of_ble_eq_true rfl) dX3_mostShut_33 ?_
          rintro _ _ (⟨c391, rfl, rfl⟩ | ⟨c393, rfl, rfl⟩)
          · show AT E 36 [(0, .ref (e_q E 3)), (1, .int x1), (2, .int x2), (3, .int y3_5), (4, .int y4_5)] [.int (0 : Int32)] σ
            refine at_istore C (lv' := [(5, .int (0 : Int32)), (0, .ref (e_q E 3)), (1, .int x1), (2, .int x2), (3, .int y3_5), (4, .int y4_5)]) dX3_mostShut_36 hn5 rfl ?_
            refine at_iload_n C 4 dX3_mostShut_38 rfl ?_
            refine at_iload C 0 dX3_mostShut_39 rfl ?_
            refine at_iconst C (2 : Int32) dX3_mostShut_41 (by decide) ?_
            refine at_icmp_ne C 49 dX3_mostShut_42 (by decide) (fun c395 => ?_) (fun c395 => absurd c395 (iv_xeq (iv_c (c := 0) (x := (0 : Int32)) (by decide)) (iv_c (c := 2) (x := (2 : Int32)) (by decide)) (by decide)))
            refine at_iload C 0 dX3_mostShut_49 rfl ?_
            refine at_iadd C dX3_mostShut_51 ?_
            refine at_istore_n C (lv' := [(3, .int (y3_5 + (0 : Int32))), (5, .int (0 : Int32)), (0, .ref (e_q E 3)), (1, .int x1), (2, .int x2), (4, .int y4_5)]) dX3_mostShut_52 hn3 rfl ?_
            refine at_iinc C (v := (y4_5 + (1 : Int32))) (lv' := [(4, .int (y4_5 + (1 : Int32))), (3, .int (y3_5 + (0 : Int32))), (5, .int (0 : Int32)), (0, .ref (e_q E 3)), (1, .int x1), (2, .int x2)]) 5 dX3_mostShut_53 rfl rfl hn4 rfl ?_
            refine at_goto C 5 dX3_mostShut_56 (by decide) ?_
            exact at_sub [3, 4, 5, 1, 0] rfl (ih5 (y3_5 + (0 : Int32)) (y4_5 + (1 : Int32)) (mz_up hm5 (ac_ti1 f386 (iv_c (c := 1) (x := (1 : Int32)) (by decide)) (by decide) (by decide) (by decide)) (by decide) (iv_wk (iv_add f386 (iv_c (c := 1) (x := (1 : Int32)) (by decide)) (by decide) (by decide)) (by decide) (by decide) : iv 0 10 (y4_5 + (1 : Int32))).2) (show iv (-2147483648) 2147483647 (y3_5 + (0 : Int32)) from (iv_add b3_5 (iv_c (c := 0) (x := (0 : Int32)) (by decide)) (by decide) (by decide))) (iv_wk (iv_add f386 (iv_c (c := 1) (x := (1 : Int32)) (by decide)) (by decide) (by decide)) (by decide) (by decide) : iv 0 10 (y4_5 + (1 : Int32))))
          · have f396 : iv 0 9 x1 := (iv_of3 c393.1 (show iv 0 10 (ac_gi σ 0) from hI.1 0))
            show AT E 36 [(0, .ref (e_q E 3)), (1, .int x1), (2, .int x2), (3, .int y3_5), (4, .int y4_5)] [.int (ac_ga σ 9 (((x1 * (10 : Int32)) + y4_5)).toNatClampNeg)] σ
            refine at_istore C (lv' := [(5, .int (ac_ga σ 9 (((x1 * (10 : Int32)) + y4_5)).toNatClampNeg)), (0, .ref (e_q E 3)), (1, .int x1), (2, .int x2), (3, .int y3_5), (4, .int y4_5)]) dX3_mostShut_36 hn5 rfl ?_
            refine at_iload_n C 4 dX3_mostShut_38 rfl ?_
            refine at_iload C 0 dX3_mostShut_39 rfl ?_
            refine at_iconst C (2 : Int32) dX3_mostShut_41 (by decide) ?_
            refine at_icmp_ne C 49 dX3_mostShut_42 (by decide) (fun c397 => ?_) (fun c397 => ?_)
            · have f398 : iv 0 1 (ac_ga σ 9 (((x1 * (10 : Int32)) + y4_5)).toNatClampNeg) := (iv_neh (show iv 0 2 (ac_ga σ 9 (((x1 * (10 : Int32)) + y4_5)).toNatClampNeg) from hI.2 9 _) (by decide) c397)
              refine at_iload C 0 dX3_mostShut_49 rfl ?_
              refine at_iadd C dX3_mostShut_51 ?_
              refine at_istore_n C (lv' := [(3, .int (y3_5 + (ac_ga σ 9 (((x1 * (10 : Int32)) + y4_5)).toNatClampNeg))), (5, .int (ac_ga σ 9 (((x1 * (10 : Int32)) + y4_5)).toNatClampNeg)), (0, .ref (e_q E 3)), (1, .int x1), (2, .int x2), (4, .int y4_5)]) dX3_mostShut_52 hn3 rfl ?_
              refine at_iinc C (v := (y4_5 + (1 : Int32))) (lv' := [(4, .int (y4_5 + (1 : Int32))), (3, .int (y3_5 + (ac_ga σ 9 (((x1 * (10 : Int32)) + y4_5)).toNatClampNeg))), (5, .int (ac_ga σ 9 (((x1 * (10 : Int32)) + y4_5)).toNatClampNeg)), (0, .ref (e_q E 3)), (1, .int x1), (2, .int x2)]) 5 dX3_mostShut_53 rfl rfl hn4 rfl ?_
              refine at_goto C 5 dX3_mostShut_56 (by decide) ?_
              exact at_sub [3, 4, 5, 1, 0] rfl (ih5 (y3_5 + (ac_ga σ 9 (((x1 * (10 : Int32)) + y4_5)).toNatClampNeg)) (y4_5 + (1 : Int32)) (mz_up hm5 (ac_ti1 f386 (iv_c (c := 1) (x := (1 : Int32)) (by decide)) (by decide) (by decide) (by decide)) (by decide) (iv_wk (iv_add f386 (iv_c (c := 1) (x := (1 : Int32)) (by decide)) (by decide) (by decide)) (by decide) (by decide) : iv 0 10 (y4_5 + (1 : Int32))).2) (show iv (-2147483648) 2147483647 (y3_5 + (ac_ga σ 9 (((x1 * (10 : Int32)) + y4_5)).toNatClampNeg)) from (iv_any (y3_5 + (ac_ga σ 9 (((x1 * (10 : Int32)) + y4_5)).toNatClampNeg)))) (iv_wk (iv_add f386 (iv_c (c := 1) (x := (1 : Int32)) (by decide)) (by decide) (by decide)) (by decide) (by decide) : iv 0 10 (y4_5 + (1 : Int32))))
            · have f399 : iv 2 2 (ac_ga σ 9 (((x1 * (10 : Int32)) + y4_5)).toNatClampNeg) := (iv_eql (iv_c (c := 2) (x := (2 : Int32)) (by decide)) c397)
              refine at_iconst C (3 : Int32) dX3_mostShut_45 (by decide) ?_
              refine at_goto C 51 dX3_mostShut_46 (by decide) ?_
              refine at_iadd C dX3_mostShut_51 ?_
              refine at_istore_n C (lv' := [(3, .int (y3_5 + (3 : Int32))), (5, .int (ac_ga σ 9 (((x1 * (10 : Int32)) + y4_5)).toNatClampNeg)), (0, .ref (e_q E 3)), (1, .int x1), (2, .int x2), (4, .int y4_5)]) dX3_mostShut_52 hn3 rfl ?_
              refine at_iinc C (v := (y4_5 + (1 : Int32))) (lv' := [(4, .int (y4_5 + (1 : Int32))), (3, .int (y3_5 + (3 : Int32))), (5, .int (ac_ga σ 9 (((x1 * (10 : Int32)) + y4_5)).toNatClampNeg)), (0, .ref (e_q E 3)), (1, .int x1), (2, .int x2)]) 5 dX3_mostShut_53 rfl rfl hn4 rfl ?_
              refine at_goto C 5 dX3_mostShut_56 (by decide) ?_
              exact at_sub [3, 4, 5, 1, 0] rfl (ih5 (y3_5 + (3 : Int32)) (y4_5 + (1 : Int32)) (mz_up hm5 (ac_ti1 f386 (iv_c (c := 1) (x := (1 : Int32)) (by decide)) (by decide) (by decide) (by decide)) (by decide) (iv_wk (iv_add f386 (iv_c (c := 1) (x := (1 : Int32)) (by decide)) (by decide) (by decide)) (by decide) (by decide) : iv 0 10 (y4_5 + (1 : Int32))).2) (show iv (-2147483648) 2147483647 (y3_5 + (3 : Int32)) from (iv_any (y3_5 + (3 : Int32)))) (iv_wk (iv_add f386 (iv_c (c := 1) (x := (1 : Int32)) (by decide)) (by decide) (by decide)) (by decide) (by decide) : iv 0 10 (y4_5 + (1 : Int32))))
        · refine at_if_eq C 53 dX3_mostShut_23 (by decide) (fun c400 => ?_) (fun c400 => absurd (iv_xne (iv_c (c := 0) (x := (0 : Int32)) (by decide)) (iv_c (c := 0) (x := (0 : Int32)) (by decide))) c400)
          refine at_iinc C (v := (y4_5 + (1 : Int32))) (lv' := [(4, .int (y4_5 + (1 : Int32))), (0, .ref (e_q E 3)), (1, .int x1), (2, .int x2), (3, .int y3_5)]) 4 dX3_mostShut_53 rfl rfl hn4 rfl ?_
          refine at_goto C 5 dX3_mostShut_56 (by decide) ?_
          exact at_sub [1, 2, 3, 4, 0] rfl (ih5 y3_5 (y4_5 + (1 : Int32)) (mz_up hm5 (ac_ti1 f386 (iv_c (c := 1) (x := (1 : Int32)) (by decide)) (by decide) (by decide) (by decide)) (by decide) (iv_wk (iv_add f386 (iv_c (c := 1) (x := (1 : Int32)) (by decide)) (by decide) (by decide)) (by decide) (by decide) : iv 0 10 (y4_5 + (1 : Int32))).2) (show iv (-2147483648) 2147483647 y3_5 from b3_5) (iv_wk (iv_add f386 (iv_c (c := 1) (x := (1 : Int32)) (by decide)) (by decide) (by decide)) (by decide) (by decide) : iv 0 10 (y4_5 + (1 : Int32))))
  refine at_iconst C (0 : Int32) dX3_mostShut_0 (by decide) ?_
  refine at_istore_n C (lv' := [(3, .int (0 : Int32)), (0, .ref (e_q E 3)), (1, .int x1), (2, .int x2)]) dX3_mostShut_1 hn3 rfl ?_
  refine at_iconst C (0 : Int32) dX3_mostShut_2 (by decide) ?_
  refine at_istore C (lv' := [(4, .int (0 : Int32)), (3, .int (0 : Int32)), (0, .ref (e_q E 3)), (1, .int x1), (2, .int x2)]) dX3_mostShut_3 hn4 rfl ?_
  exact at_sub [2, 3, 4, 1, 0] rfl (K5 _ (0 : Int32) (0 : Int32) (Nat.lt_succ_self _) (iv_wk (iv_c (c := 0) (x := (0 : Int32)) (by decide)) (by decide) (by decide) : iv (-2147483648) 2147483647 (0 : Int32)) (iv_wk (iv_c (c := 0) (x := (0 : Int32)) (by decide)) (by decide) (by decide) : iv 0 10 (0 : Int32)))
set_option maxHeartbeats 4000000 in
set_option maxRecDepth 100000 in
theorem ct_X3_hardPart (σ : SS) (x1 : Int32) (hI : Inv σ) : ConI yX3_hardPart cX3_hardPart 6 (some .int) 3 (some 3) [.int x1] σ (fun r σ' => Gd σ σ' ∧ iv (-2147483648) 2147483647 r) := by
  refine conI_of (by decide) (fun q => Nat.le_of_ble_eq_true rfl) (fun E C en hR => ?_)
  have hn2 : 2 < e_n E := by rw [en]; decide
  have hn3 : 3 < e_n E := by rw [en]; decide
  have hn4 : 4 < e_n E := by rw [en]; decide
  have hn5 : 5 < e_n E := by rw [en]; decide
  have hG0 : Gd σ σ := Gd.rf hI
  have K4 : ∀ (n4 : Nat) (y2_4 : Int32) (y3_4 : Int32) (s4 : SS), (10 - (y3_4).toInt).toNat < n4 → iv (-2147483648) 2147483647 y2_4 → iv 0 10 y3_4 → Gd σ s4 → AT E 4 [(0, .ref (e_q E 3)), (2, .int y2_4), (3, .int y3_4)] [] s4 := by
    intro n4
    induction n4 with
    | zero => intro y2_4 y3_4 s4 hm; exact absurd hm (Nat.not_lt_zero _)
    | succ n4 ih4 =>
      intro y2_4 y3_4 s4 hm4 b2_4 b3_4 hG_4
      have K16 : ∀ (n16 : Nat) (y2_16 : Int32) (y4_16 : Int32) (y5_16 : Int32) (s16 : SS), (10 - (y5_16).toInt).toNat < n16 → iv (-2147483648) 2147483647 y2_16 → iv 0 9 y3_4 → iv (-2147483648) 2147483647 y4_16 → iv 0 10 y5_16 → Gd σ s16 → AT E 16 [(0, .ref (e_q E 3)), (2, .int y2_16), (3, .int y3_4), (4, .int y4_16), (5, .int y5_16)] [] s16 := by
        intro n16
        induction n16 with
        | zero => intro y2_16 y4_16 y5_16 s16 hm; exact absurd hm (Nat.not_lt_zero _)
        | succ n16 ih16 =>
          intro y2_16 y4_16 y5_16 s16 hm16 b2_16 b3_16 b4_16 b5_16 hG_16
          refine at_iload C 4 dX3_hardPart_16 rfl ?_
          refine at_aload_n C 0 dX3_hardPart_18 rfl ?_
          refine gf_X3_21 C dX3_hardPart_19 ?_
          refine gf_X3_57 C dX3_hardPart_22 ?_
          refine at_icmp_ge C 90 dX3_hardPart_25 (by decide) (fun c285 => ?_) (fun c285 => ?_)
          · refine at_iload_n C 1 dX3_hardPart_90 rfl ?_
            refine at_iload C 3 dX3_hardPart_91 rfl ?_
            refine at_icmp_ne C 99 dX3_hardPart_93 (by decide) (fun c286 => ?_) (fun c286 => ?_)
            · refine at_iinc C (v := (y3_4 + (1 : Int32))) (lv' := [(3, .int (y3_4 + (1 : Int32))), (0, .ref (e_q E 3)), (2, .int y2_16), (4, .int y4_16), (5, .int y5_16)]) 2 dX3_hardPart_99 rfl rfl hn3 rfl ?_
              refine at_goto C 4 dX3_hardPart_102 (by decide) ?_
              exact at_sub [1, 2, 0] rfl (ih4 y2_16 (y3_4 + (1 : Int32)) s16 (mz_up hm4 (ac_ti1 b3_16 (iv_c (c := 1) (x := (1 : Int32)) (by decide)) (by decide) (by decide) (by decide)) (by decide) (iv_wk (iv_add b3_16 (iv_c (c := 1) (x := (1 : Int32)) (by decide)) (by decide) (by decide)) (by decide) (by decide) : iv 0 10 (y3_4 + (1 : Int32))).2) (show iv (-2147483648) 2147483647 y2_16 from b2_16) (iv_wk (iv_add b3_16 (iv_c (c := 1) (x := (1 : Int32)) (by decide)) (by decide) (by decide)) (by decide) (by decide) : iv 0 10 (y3_4 + (1 : Int32))) hG_16)
            · refine at_goto C 105 dX3_hardPart_96 (by decide) ?_
              refine at_iload_n C 1 dX3_hardPart_105 rfl ?_
              exact hR _ _ _ _ dX3_hardPart_106 ⟨hG_16, (show iv (-2147483648) 2147483647 y2_16 from b2_16)⟩
          · have f287 : iv 0 9 y5_16 := (iv_ltl b5_16 (show iv 0 10 (ac_gi s16 0) from hG_16.1.1 0) (Int32.not_le.mp c285))
            have f288 : iv 1 10 (ac_gi s16 0) := (iv_ltr b5_16 (show iv 0 10 (ac_gi s16 0) from hG_16.1.1 0) (Int32.not_le.mp c285))
            refine at_iload_n C 1 dX3_hardPart_28 rfl ?_
            refine at_iload C 4 dX3_hardPart_29 rfl ?_
            refine at_Ni C (As := [.int y2_16, .int y5_16]) (st := []) (ct_X6_has s16 y2_16 y5_16) mb_X6_has ml_X3_40 rfl (by decide) rfl (Nat.le_of_ble_eq_true rfl) dX3_hardPart_31 ?_
            rintro _ _ ⟨rfl, ⟨rfl, c289⟩ | ⟨rfl, c289⟩⟩
            · refine at_if_eq C 84 dX3_hardPart_34 (by decide) (fun c291 => absurd c291 (iv_xeq (iv_c (c := 1) (x := (1 : Int32)) (by decide)) (iv_c (c := 0) (x := (0 : Int32)) (by decide)) (by decide))) (fun c291 => ?_)
              refine at_aload_n C 0 dX3_hardPart_37 rfl ?_
              refine gf_X3_15 C dX3_hardPart_38 ?_
              refine at_iload C 4 dX3_hardPart_41 rfl ?_
              refine at_aload_n C 0 dX3_hardPart_43 rfl ?_
              refine at_iload C 4 dX3_hardPart_44 rfl ?_
              refine at_iload_n C 1 dX3_hardPart_46 rfl ?_
              refine at_Vi C (As := [.int y5_16, .int y2_16]) (st := [.int y5_16, .ref (e_q E 15)]) (b := 3) (ci := 3) (ct_X3_mostShut s16 y5_16 y2_16 hG_16.1) mb_X3_mostShut ml_X3_73 rfl rfl rfl (by decide) rfl (Nat.le_of_ble_eq_true rfl) dX3_hardPart_47 ?_
              rintro r292 _ ⟨rfl, f293⟩
              refine at_iast C (c := 15) rfl (fun f => ac_ast_15 _ _ _ _ f) (iv_in (n := 10) f287 (by decide) (by decide)) dX3_hardPart_50 ?_
              have hG294 := Gd.sa (c := 15) (i := (y5_16).toNatClampNeg) hG_16 rfl (show iv (-2147483648) 2147483647 r292 from f293)
              refine at_aload_n C 0 dX3_hardPart_51 rfl ?_
              refine gf_X3_9 C dX3_hardPart_52 ?_
              refine at_iload C 4 dX3_hardPart_55 rfl ?_
              refine at_iald C (c := 14) rfl (iv_in (n := 10) f287 (by decide) (by decide)) dX3_hardPart_57 ?_
              show AT E 58 [(0, .ref (e_q E 3)), (2, .int y2_16), (3, .int y3_4), (4, .int y4_16), (5, .int y5_16)] [.int (ac_ga s16 14 (y5_16).toNatClampNeg)] (ac_sa s16 15 (upd (ac_ga s16 15) (y5_16).toNatClampNeg r292))
              refine at_Si C (As := [.int (ac_ga s16 14 (y5_16).toNatClampNeg)]) (st := []) (ct_J6_bitCount_0f7a4 (ac_sa s16 15 (upd (ac_ga s16 15) (y5_16).toNatClampNeg r292)) (ac_ga s16 14 (y5_16).toNatClampNeg)) mb_J6_bitCount_0f7a4 ml_X3_52 rfl (by decide) rfl (Nat.le_of_ble_eq_true rfl) dX3_hardPart_58 ?_
              rintro r295 _ ⟨rfl, f296, mo297⟩
              refine at_aload_n C 0 dX3_hardPart_61 rfl ?_
              refine gf_X3_15 C dX3_hardPart_62 ?_
              refine at_iload C 4 dX3_hardPart_65 rfl ?_
              refine at_iald C (c := 15) rfl (iv_in (n := 10) f287 (by decide) (by decide)) dX3_hardPart_67 ?_
              refine at_icmp_le C 82 dX3_hardPart_68 (by decide) (fun c298 => ?_) (fun c298 => ?_)
              · have f299 : iv 0 2147483647 (ac_ga (ac_sa s16 15 (upd (ac_ga s16 15) (y5_16).toNatClampNeg r292)) 15 (y5_16).toNatClampNeg) := (iv_ler f296 (iv_any (ac_ga (ac_sa s16 15 (upd (ac_ga s16 15) (y5_16).toNatClampNeg r292)) 15 (y5_16).toNatClampNeg)) c298)
                refine at_iload_n C 1 dX3_hardPart_82 rfl ?_
                refine at_istore_n C (lv' := [(2, .int y2_16), (0, .ref (e_q E 3)), (3, .int y3_4), (4, .int y4_16), (5, .int y5_16)]) dX3_hardPart_83 hn2 rfl ?_
                refine at_iinc C (v := (y5_16 + (1 : Int32))) (lv' := [(5, .int (y5_16 + (1 : Int32))), (2, .int y2_16), (0, .ref (e_q E 3)), (3, .int y3_4), (4, .int y4_16)]) 4 dX3_hardPart_84 rfl rfl hn5 rfl ?_
                refine at_goto C 16 dX3_hardPart_87 (by decide) ?_
                exact at_sub [2, 1, 3, 4, 0] rfl (ih16 y2_16 y4_16 (y5_16 + (1 : Int32)) (ac_sa s16 15 (upd (ac_ga s16 15) (y5_16).toNatClampNeg r292)) (mz_up hm16 (ac_ti1 f287 (iv_c (c := 1) (x := (1 : Int32)) (by decide)) (by decide) (by decide) (by decide)) (by decide) (iv_wk (iv_add f287 (iv_c (c := 1) (x := (1 : Int32)) (by decide)) (by decide) (by decide)) (by decide) (by decide) : iv 0 10 (y5_16 + (1 : Int32))).2) (show iv (-2147483648) 2147483647 y2_16 from b2_16) (show iv 0 9 y3_4 from b3_16) (show iv (-2147483648) 2147483647 y4_16 from b4_16) (iv_wk (iv_add f287 (iv_c (c := 1) (x := (1 : Int32)) (by decide)) (by decide) (by decide)) (by decide) (by decide) : iv 0 10 (y5_16 + (1 : Int32))) hG294)
              · have f300 : iv (-2147483648) 62 (ac_ga (ac_sa s16 15 (upd (ac_ga s16 15) (y5_16).toNatClampNeg r292)) 15 (y5_16).toNatClampNeg) := (iv_ltl (iv_any (ac_ga (ac_sa s16 15 (upd (ac_ga s16 15) (y5_16).toNatClampNeg r292)) 15 (y5_16).toNatClampNeg)) f296 (Int32.not_le.mp c298))
                refine at_iload_n C 1 dX3_hardPart_71 rfl ?_
                refine at_iconst C (1 : Int32) dX3_hardPart_72 (by decide) ?_
                refine at_iload C 4 dX3_hardPart_73 rfl ?_
                refine at_ishl C dX3_hardPart_75 ?_
                refine at_iconst C (-1 : Int32) dX3_hardPart_76 (by decide) ?_
                refine at_ixor C dX3_hardPart_77 ?_
                refine at_iand C dX3_hardPart_78 ?_
                refine at_goto C 83 dX3_hardPart_79 (by decide) ?_
                refine at_istore_n C (lv' := [(2, .int (y2_16 &&& (((1 : Int32) <<< (y5_16 &&& 31)) ^^^ (-1 : Int32)))), (0, .ref (e_q E 3)), (3, .int y3_4), (4, .int y4_16), (5, .int y5_16)]) dX3_hardPart_83 hn2 rfl ?_
                refine at_iinc C (v := (y5_16 + (1 : Int32))) (lv' := [(5, .int (y5_16 + (1 : Int32))), (2, .int (y2_16 &&& (((1 : Int32) <<< (y5_16 &&& 31)) ^^^ (-1 : Int32)))), (0, .ref (e_q E 3)), (3, .int y3_4), (4, .int y4_16)]) 4 dX3_hardPart_84 rfl rfl hn5 rfl ?_
                refine at_goto C 16 dX3_hardPart_87 (by decide) ?_
                exact at_sub [2, 1, 3, 4, 0] rfl (ih16 (y2_16 &&& (((1 : Int32) <<< (y5_16 &&& 31)) ^^^ (-1 : Int32))) y4_16 (y5_16 + (1 : Int32)) (ac_sa s16 15 (upd (ac_ga s16 15) (y5_16).toNatClampNeg r292)) (mz_up hm16 (ac_ti1 f287 (iv_c (c := 1) (x := (1 : Int32)) (by decide)) (by decide) (by decide) (by decide)) (by decide) (iv_wk (iv_add f287 (iv_c (c := 1) (x := (1 : Int32)) (by decide)) (by decide) (by decide)) (by decide) (by decide) : iv 0 10 (y5_16 + (1 : Int32))).2) (show iv (-2147483648) 2147483647 (y2_16 &&& (((1 : Int32) <<< (y5_16 &&& 31)) ^^^ (-1 : Int32))) from (iv_any (y2_16 &&& (((1 : Int32) <<< (y5_16 &&& 31)) ^^^ (-1 : Int32))))) (show iv 0 9 y3_4 from b3_16) (show iv (-2147483648) 2147483647 y4_16 from b4_16) (iv_wk (iv_add f287 (iv_c (c := 1) (x := (1 : Int32)) (by decide)) (by decide) (by decide)) (by decide) (by decide) : iv 0 10 (y5_16 + (1 : Int32))) hG294)
            · refine at_if_eq C 84 dX3_hardPart_34 (by decide) (fun c301 => ?_) (fun c301 => absurd (iv_xne (iv_c (c := 0) (x := (0 : Int32)) (by decide)) (iv_c (c := 0) (x := (0 : Int32)) (by decide))) c301)
              refine at_iinc C (v := (y5_16 + (1 : Int32))) (lv' := [(5, .int (y5_16 + (1 : Int32))), (0, .ref (e_q E 3)), (2, .int y2_16), (3, .int y3_4), (4, .int y4_16)]) 4 dX3_hardPart_84 rfl rfl hn5 rfl ?_
              refine at_goto C 16 dX3_hardPart_87 (by decide) ?_
              exact at_sub [1, 2, 3, 4, 0] rfl (ih16 y2_16 y4_16 (y5_16 + (1 : Int32)) s16 (mz_up hm16 (ac_ti1 f287 (iv_c (c := 1) (x := (1 : Int32)) (by decide)) (by decide) (by decide) (by decide)) (by decide) (iv_wk (iv_add f287 (iv_c (c := 1) (x := (1 : Int32)) (by decide)) (by decide) (by decide)) (by decide) (by decide) : iv 0 10 (y5_16 + (1 : Int32))).2) (show iv (-2147483648) 2147483647 y2_16 from b2_16) (show iv 0 9 y3_4 from b3_16) (show iv (-2147483648) 2147483647 y4_16 from b4_16) (iv_wk (iv_add f287 (iv_c (c := 1) (x := (1 : Int32)) (by decide)) (by decide) (by decide)) (by decide) (by decide) : iv 0 10 (y5_16 + (1 : Int32))) hG_16)
      refine at_iload_n C 2 dX3_hardPart_4 rfl ?_
      refine at_bipush C (10 : Int32) dX3_hardPart_5 (by decide) ?_
      refine at_icmp_ge C 105 dX3_hardPart_7 (by decide) (fun c302 => ?_) (fun c302 => ?_)
      · have f303 : iv 10 10 y3_4 := (iv_ler (iv_c (c := 10) (x := (10 : Int32)) (by decide)) b3_4 c302)
        refine at_iload_n C 1 dX3_hardPart_105 rfl ?_
        exact hR _ _ _ _ dX3_hardPart_106 ⟨hG_4, (show iv (-2147483648) 2147483647 y2_4 from b2_4)⟩
      · have f304 : iv 0 9 y3_4 := (iv_ltl b3_4 (iv_c (c := 10) (x := (10 : Int32)) (by decide)) (Int32.not_le.mp c302))
        refine at_iload_n C 1 dX3_hardPart_10 rfl ?_
        refine at_istore C (lv' := [(4, .int y2_4), (0, .ref (e_q E 3)), (2, .int y2_4), (3, .int y3_4)]) dX3_hardPart_11 hn4 rfl ?_
        refine at_iconst C (0 : Int32) dX3_hardPart_13 (by decide) ?_
        refine at_istore C (lv' := [(5, .int (0 : Int32)), (4, .int y2_4), (0, .ref (e_q E 3)), (2, .int y2_4), (3, .int y3_4)]) dX3_hardPart_14 hn5 rfl ?_
        exact at_sub [2, 3, 4, 1, 0] rfl (K16 _ y2_4 y2_4 (0 : Int32) s4 (Nat.lt_succ_self _) (show iv (-2147483648) 2147483647 y2_4 from b2_4) (show iv 0 9 y3_4 from f304) (show iv (-2147483648) 2147483647 y2_4 from b2_4) (iv_wk (iv_c (c := 0) (x := (0 : Int32)) (by decide)) (by decide) (by decide) : iv 0 10 (0 : Int32)) hG_4)
  refine at_iload_n C 1 dX3_hardPart_0 rfl ?_
  refine at_istore_n C (lv' := [(2, .int x1), (0, .ref (e_q E 3)), (1, .int x1)]) dX3_hardPart_1 hn2 rfl ?_
  refine at_iconst C (0 : Int32) dX3_hardPart_2 (by decide) ?_
  refine at_istore_n C (lv' := [(3, .int (0 : Int32)), (2, .int x1), (0, .ref (e_q E 3)), (1, .int x1)]) dX3_hardPart_3 hn3 rfl ?_
  exact at_sub [2, 1, 0] rfl (K4 _ x1 (0 : Int32) σ (Nat.lt_succ_self _) (show iv (-2147483648) 2147483647 x1 from (iv_any x1)) (iv_wk (iv_c (c := 0) (x := (0 : Int32)) (by decide)) (by decide) (by decide) : iv 0 10 (0 : Int32)) hG0)
set_option maxHeartbeats 4000000 in
set_option maxRecDepth 100000 in
theorem ct_X3_tightest (σ : SS) (x1 : Int32) (x2 : Int32) (hI : Inv σ) (g2 : iv 0 9 x2) : ConI yX3_tightest cX3_tightest 7 (some .int) 1 (some 3) [.int x1, .int x2] σ (fun r σ' => σ = σ' ∧ iv 0 9 r) := by
  refine conI_of (by decide) (fun q => Nat.le_of_ble_eq_true rfl) (fun E C en hR => ?_)
  have hn3 : 3 < e_n E := by rw [en]; decide
  have hn4 : 4 < e_n E := by rw [en]; decide
  have hn5 : 5 < e_n E := by rw [en]; decide
  have hn6 : 6 < e_n E := by rw [en]; decide
  have K9 : ∀ (n9 : Nat) (y3_9 : Int32) (y4_9 : Int32) (y5_9 : Int32), (10 - (y5_9).toInt).toNat < n9 → iv 0 9 y3_9 → iv 0 7 y4_9 → iv 0 10 y5_9 → AT E 9 [(0, .ref (e_q E 3)), (1, .int x1), (2, .int x2), (3, .int y3_9), (4, .int y4_9), (5, .int y5_9)] [] σ := by
    intro n9
    induction n9 with
    | zero => intro y3_9 y4_9 y5_9 hm; exact absurd hm (Nat.not_lt_zero _)
    | succ n9 ih9 =>
      intro y3_9 y4_9 y5_9 hm9 b3_9 b4_9 b5_9
      refine at_iload C 5 dX3_tightest_9 rfl ?_
      refine at_aload_n C 0 dX3_tightest_11 rfl ?_
      refine gf_X3_21 C dX3_tightest_12 ?_
      refine gf_X3_57 C dX3_tightest_15 ?_
      refine at_icmp_ge C 90 dX3_tightest_18 (by decide) (fun c271 => ?_) (fun c271 => ?_)
      · refine at_iload_n C 3 dX3_tightest_90 rfl ?_
        exact hR _ _ _ _ dX3_tightest_91 ⟨rfl, (show iv 0 9 y3_9 from b3_9)⟩
      · have f272 : iv 0 9 y5_9 := (iv_ltl b5_9 (show iv 0 10 (ac_gi σ 0) from hI.1 0) (Int32.not_le.mp c271))
        have f273 : iv 1 10 (ac_gi σ 0) := (iv_ltr b5_9 (show iv 0 10 (ac_gi σ 0) from hI.1 0) (Int32.not_le.mp c271))
        refine at_iload_n C 1 dX3_tightest_21 rfl ?_
        refine at_iload C 5 dX3_tightest_22 rfl ?_
        refine at_Ni C (As := [.int x1, .int y5_9]) (st := []) (ct_X6_has σ x1 y5_9) mb_X6_has ml_X3_40 rfl (by decide) rfl (Nat.le_of_ble_eq_true rfl) dX3_tightest_24 ?_
        rintro _ _ ⟨rfl, ⟨rfl, c274⟩ | ⟨rfl, c274⟩⟩
        · refine at_if_eq C 84 dX3_tightest_27 (by decide) (fun c276 => absurd c276 (iv_xeq (iv_c (c := 1) (x := (1 : Int32)) (by decide)) (iv_c (c := 0) (x := (0 : Int32)) (by decide)) (by decide))) (fun c276 => ?_)
          refine at_aload_n C 0 dX3_tightest_30 rfl ?_
          refine gf_X3_18 C dX3_tightest_31 ?_
          refine at_iload_n C 2 dX3_tightest_34 rfl ?_
          refine at_bipush C (10 : Int32) dX3_tightest_35 (by decide) ?_
          refine at_imul C dX3_tightest_37 ?_
          refine at_iload C 5 dX3_tightest_38 rfl ?_
          refine at_iadd C dX3_tightest_40 ?_
          refine at_iald C (c := 16) rfl (iv_in (n := 110) (iv_add (iv_mul g2 (iv_wk (c := 0) (iv_c (c := 10) (x := (10 : Int32)) (by decide)) (by decide) (Int.le_refl _)) (by decide)) f272 (by decide) (by decide)) (by decide) (by decide)) dX3_tightest_41 ?_
          refine at_Si C (As := [.int (ac_ga σ 16 (((x2 * (10 : Int32)) + y5_9)).toNatClampNeg)]) (st := []) (ct_J6_bitCount_0f7a4 σ (ac_ga σ 16 (((x2 * (10 : Int32)) + y5_9)).toNatClampNeg)) mb_J6_bitCount_0f7a4 ml_X3_52 rfl (by decide) rfl (Nat.le_of_ble_eq_true rfl) dX3_tightest_42 ?_
          rintro r277 _ ⟨rfl, f278, mo279⟩
          refine at_istore C (lv' := [(6, .int r277), (0, .ref (e_q E 3)), (1, .int x1), (2, .int x2), (3, .int y3_9), (4, .int y4_9), (5, .int y5_9)]) dX3_tightest_45 hn6 rfl ?_
          refine at_iload C 0 dX3_tightest_47 rfl ?_
          refine at_iload C 5 dX3_tightest_49 rfl ?_
          refine at_icmp_lt C 77 dX3_tightest_51 (by decide) (fun c280 => ?_) (fun c280 => ?_)
          · have f281 : iv 0 6 r277 := (iv_ltl f278 b4_9 c280)
            have f282 : iv 1 7 y4_9 := (iv_ltr f278 b4_9 c280)
            refine at_iload C 6 dX3_tightest_77 rfl ?_
            refine at_istore_n C (lv' := [(3, .int y5_9), (6, .int r277), (0, .ref (e_q E 3)), (1, .int x1), (2, .int x2), (4, .int y4_9), (5, .int y5_9)]) dX3_tightest_79 hn3 rfl ?_
            refine at_iload C 1 dX3_tightest_80 rfl ?_
            refine at_istore C (lv' := [(4, .int r277), (3, .int y5_9), (6, .int r277), (0, .ref (e_q E 3)), (1, .int x1), (2, .int x2), (5, .int y5_9)]) dX3_tightest_82 hn4 rfl ?_
            refine at_iinc C (v := (y5_9 + (1 : Int32))) (lv' := [(5, .int (y5_9 + (1 : Int32))), (4, .int r277), (3, .int y5_9), (6, .int r277), (0, .ref (e_q E 3)), (1, .int x1), (2, .int x2)]) 6 dX3_tightest_84 rfl rfl hn5 rfl ?_
            refine at_goto C 9 dX3_tightest_87 (by decide) ?_
            exact at_sub [4, 5, 6, 2, 1, 0] rfl (ih9 y5_9 r277 (y5_9 + (1 : Int32)) (mz_up hm9 (ac_ti1 f272 (iv_c (c := 1) (x := (1 : Int32)) (by decide)) (by decide) (by decide) (by decide)) (by decide) (iv_wk (iv_add f272 (iv_c (c := 1) (x := (1 : Int32)) (by decide)) (by decide) (by decide)) (by decide) (by decide) : iv 0 10 (y5_9 + (1 : Int32))).2) (show iv 0 9 y5_9 from f272) (iv_wk f281 (by decide) (by decide) : iv 0 7 r277) (iv_wk (iv_add f272 (iv_c (c := 1) (x := (1 : Int32)) (by decide)) (by decide) (by decide)) (by decide) (by decide) : iv 0 10 (y5_9 + (1 : Int32))))
          · refine at_iload C 0 dX3_tightest_54 rfl ?_
            refine at_iload C 5 dX3_tightest_56 rfl ?_
            refine at_icmp_ne C 84 dX3_tightest_58 (by decide) (fun c283 => ?_) (fun c283 => ?_)
            · refine at_iinc C (v := (y5_9 + (1 : Int32))) (lv' := [(5, .int (y5_9 + (1 : Int32))), (6, .int r277), (0, .ref (e_q E 3)), (1, .int x1), (2, .int x2), (3, .int y3_9), (4, .int y4_9)]) 6 dX3_tightest_84 rfl rfl hn5 rfl ?_
              refine at_goto C 9 dX3_tightest_87 (by decide) ?_
              exact at_sub [2, 3, 4, 5, 6, 0] rfl (ih9 y3_9 y4_9 (y5_9 + (1 : Int32)) (mz_up hm9 (ac_ti1 f272 (iv_c (c := 1) (x := (1 : Int32)) (by decide)) (by decide) (by decide) (by decide)) (by decide) (iv_wk (iv_add f272 (iv_c (c := 1) (x := (1 : Int32)) (by decide)) (by decide) (by decide)) (by decide) (by decide) : iv 0 10 (y5_9 + (1 : Int32))).2) (show iv 0 9 y3_9 from b3_9) (show iv 0 7 y4_9 from b4_9) (iv_wk (iv_add f272 (iv_c (c := 1) (x := (1 : Int32)) (by decide)) (by decide) (by decide)) (by decide) (by decide) : iv 0 10 (y5_9 + (1 : Int32))))
            · have f284 : iv 0 7 r277 := (iv_eql b4_9 c283)
              refine at_aload_n C 1 dX3_tightest_61 rfl ?_
              refine gf_X3_15 C dX3_tightest_62 ?_
              refine at_iload C 6 dX3_tightest_65 rfl ?_
              refine at_iald C (c := 15) rfl (iv_in (n := 10) f272 (by decide) (by decide)) dX3_tightest_67 ?_
              refine at_aload_n C 1 dX3_tightest_68 rfl ?_
              refine gf_X3_15 C dX3_tightest_69 ?_
              refine at_iload_n C 4 dX3_tightest_72 rfl ?_
              refine at_iald C (c := 15) rfl (iv_in (n := 10) b3_9 (by decide) (by decide)) dX3_tightest_73 ?_
              refine at_icmp_le C 84 dX3_tightest_74 (by decide) (fun c285 => ?_) (fun c285 => ?_)
              · refine at_iinc C (v := (y5_9 + (1 : Int32))) (lv' := [(5, .int (y5_9 + (1 : Int32))), (6, .int r277), (0, .ref (e_q E 3)), (1, .int x1), (2, .int x2), (3, .int y3_9), (4, .int y4_9)]) 6 dX3_tightest_84 rfl rfl hn5 rfl ?_
                refine at_goto C 9 dX3_tightest_87 (by decide) ?_
                exact at_sub [2, 3, 4, 5, 6, 0] rfl (ih9 y3_9 y4_9 (y5_9 + (1 : Int32)) (mz_up hm9 (ac_ti1 f272 (iv_c (c := 1) (x := (1 : Int32)) (by decide)) (by decide) (by decide) (by decide)) (by decide) (iv_wk (iv_add f272 (iv_c (c := 1) (x := (1 : Int32)) (by decide)) (by decide) (by decide)) (by decide) (by decide) : iv 0 10 (y5_9 + (1 : Int32))).2) (show iv 0 9 y3_9 from b3_9) (show iv 0 7 y4_9 from b4_9) (iv_wk (iv_add f272 (iv_c (c := 1) (x := (1 : Int32)) (by decide)) (by decide) (by decide)) (by decide) (by decide) : iv 0 10 (y5_9 + (1 : Int32))))
              · have f286 : iv (-2147483648) 2147483646 (ac_ga σ 15 (y3_9).toNatClampNeg) := (iv_ltl (iv_any (ac_ga σ 15 (y3_9).toNatClampNeg)) (iv_any (ac_ga σ 15 (y5_9).toNatClampNeg)) (Int32.not_le.mp c285))
                have f287 : iv (-2147483647) 2147483647 (ac_ga σ 15 (y5_9).toNatClampNeg) := (iv_ltr (iv_any (ac_ga σ 15 (y3_9).toNatClampNeg)) (iv_any (ac_ga σ 15 (y5_9).toNatClampNeg)) (Int32.not_le.mp c285))
                refine at_iload C 6 dX3_tightest_77 rfl ?_
                refine at_istore_n C (lv' := [(3, .int y5_9), (6, .int r277), (0, .ref (e_q E 3)), (1, .int x1), (2, .int x2), (4, .int y4_9), (5, .int y5_9)]) dX3_tightest_79 hn3 rfl ?_
                refine at_iload C 1 dX3_tightest_80 rfl ?_
                refine at_istore C (lv' := [(4, .int r277), (3, .int y5_9), (6, .int r277), (0, .ref (e_q E 3)), (1, .int x1), (2, .int x2), (5, .int y5_9)]) dX3_tightest_82 hn4 rfl ?_
                refine at_iinc C (v := (y5_9 + (1 : Int32))) (lv' := [(5, .int (y5_9 + (1 : Int32))), (4, .int r277), (3, .int y5_9), (6, .int r277), (0, .ref (e_q E 3)), (1, .int x1), (2, .int x2)]) 6 dX3_tightest_84 rfl rfl hn5 rfl ?_
                refine at_goto C 9 dX3_tightest_87 (by decide) ?_
                exact at_sub [4, 5, 6, 2, 1, 0] rfl (ih9 y5_9 r277 (y5_9 + (1 : Int32)) (mz_up hm9 (ac_ti1 f272 (iv_c (c := 1) (x := (1 : Int32)) (by decide)) (by decide) (by decide) (by decide)) (by decide) (iv_wk (iv_add f272 (iv_c (c := 1) (x := (1 : Int32)) (by decide)) (by decide) (by decide)) (by decide) (by decide) : iv 0 10 (y5_9 + (1 : Int32))).2) (show iv 0 9 y5_9 from f272) (show iv 0 7 r277 from f284) (iv_wk (iv_add f272 (iv_c (c := 1) (x := (1 : Int32)) (by decide)) (by decide) (by decide)) (by decide) (by decide) : iv 0 10 (y5_9 + (1 : Int32))))
        · refine at_if_eq C 84 dX3_tightest_27 (by decide) (fun c288 => ?_) (fun c288 => absurd (iv_xne (iv_c (c := 0) (x := (0 : Int32)) (by decide)) (iv_c (c := 0) (x := (0 : Int32)) (by decide))) c288)
          refine at_iinc C (v := (y5_9 + (1 : Int32))) (lv' := [(5, .int (y5_9 + (1 : Int32))), (0, .ref (e_q E 3)), (1, .int x1), (2, .int x2), (3, .int y3_9), (4, .int y4_9)]) 5 dX3_tightest_84 rfl rfl hn5 rfl ?_
          refine at_goto C 9 dX3_tightest_87 (by decide) ?_
          exact at_sub [1, 2, 3, 4, 5, 0] rfl (ih9 y3_9 y4_9 (y5_9 + (1 : Int32)) (mz_up hm9 (ac_ti1 f272 (iv_c (c := 1) (x := (1 : Int32)) (by decide)) (by decide) (by decide) (by decide)) (by decide) (iv_wk (iv_add f272 (iv_c (c := 1) (x := (1 : Int32)) (by decide)) (by decide) (by decide)) (by decide) (by decide) : iv 0 10 (y5_9 + (1 : Int32))).2) (show iv 0 9 y3_9 from b3_9) (show iv 0 7 y4_9 from b4_9) (iv_wk (iv_add f272 (iv_c (c := 1) (x := (1 : Int32)) (by decide)) (by decide) (by decide)) (by decide) (by decide) : iv 0 10 (y5_9 + (1 : Int32))))
  refine at_iconst C (0 : Int32) dX3_tightest_0 (by decide) ?_
  refine at_istore_n C (lv' := [(3, .int (0 : Int32)), (0, .ref (e_q E 3)), (1, .int x1), (2, .int x2)]) dX3_tightest_1 hn3 rfl ?_
  refine at_bipush C (7 : Int32) dX3_tightest_2 (by decide) ?_
  refine at_istore C (lv' := [(4, .int (7 : Int32)), (3, .int (0 : Int32)), (0, .ref (e_q E 3)), (1, .int x1), (2, .int x2)]) dX3_tightest_4 hn4 rfl ?_
  refine at_iconst C (0 : Int32) dX3_tightest_6 (by decide) ?_
  refine at_istore C (lv' := [(5, .int (0 : Int32)), (4, .int (7 : Int32)), (3, .int (0 : Int32)), (0, .ref (e_q E 3)), (1, .int x1), (2, .int x2)]) dX3_tightest_7 hn5 rfl ?_
  exact at_sub [3, 4, 5, 2, 1, 0] rfl (K9 _ (0 : Int32) (7 : Int32) (0 : Int32) (Nat.lt_succ_self _) (iv_wk (iv_c (c := 0) (x := (0 : Int32)) (by decide)) (by decide) (by decide) : iv 0 9 (0 : Int32)) (iv_wk (iv_c (c := 7) (x := (7 : Int32)) (by decide)) (by decide) (by decide) : iv 0 7 (7 : Int32)) (iv_wk (iv_c (c := 0) (x := (0 : Int32)) (by decide)) (by decide) (by decide) : iv 0 10 (0 : Int32)))
set_option maxHeartbeats 4000000 in
set_option maxRecDepth 100000 in
theorem ct_X3_narrow (σ : SS) (x1 : Int32) (x2 : Int32) (x3 : Int32) (x4 : Int32) (hI : Inv σ) (g1 : iv 0 9 x1) (g4 : iv 0 9 x4) : ConI yX3_narrow cX3_narrow 7 (some .boolean) 1 (some 3) [.int x1, .int x2, .int x3, .int x4] σ (fun r σ' => Gd σ σ' ∧ (r = 0 ∨ r = 1)) := by
  refine conZ_of (by decide) (fun q => Nat.le_of_ble_eq_true rfl) (fun r u h => h.2) (fun E C en hR => ?_)
  have hn5 : 5 < e_n E := by rw [en]; decide
  have hn6 : 6 < e_n E := by rw [en]; decide
  have hG0 : Gd σ σ := Gd.rf hI
  have K3 : ∀ (n3 : Nat) (y5_3 : Int32) (s3 : SS), (10 - (y5_3).toInt).toNat < n3 → iv 0 10 y5_3 → Gd σ s3 → AT E 3 [(0, .ref (e_q E 3)), (1, .int x1), (2, .int x2), (3, .int x3), (4, .int x4), (5, .int y5_3)] [] s3 := by
    intro n3
    induction n3 with
    | zero => intro y5_3 s3 hm; exact absurd hm (Nat.not_lt_zero _)
    | succ n3 ih3 =>
      intro y5_3 s3 hm3 b5_3 hG_3
      refine at_iload C 5 dX3_narrow_3 rfl ?_
      refine at_aload_n C 0 dX3_narrow_5 rfl ?_
      refine gf_X3_21 C dX3_narrow_6 ?_
      refine gf_X3_57 C dX3_narrow_9 ?_
      refine at_icmp_ge C 83 dX3_narrow_12 (by decide) (fun c181 => ?_) (fun c181 => ?_)
      · refine at_iconst C (1 : Int32) dX3_narrow_83 (by decide) ?_
        exact hR _ _ _ _ dX3_narrow_84 ⟨hG_3, Or.inr rfl⟩
      · have f182 : iv 0 9 y5_3 := (iv_ltl b5_3 (show iv 0 10 (ac_gi s3 0) from hG_3.1.1 0) (Int32.not_le.mp c181))
        have f183 : iv 1 10 (ac_gi s3 0) := (iv_ltr b5_3 (show iv 0 10 (ac_gi s3 0) from hG_3.1.1 0) (Int32.not_le.mp c181))
        refine at_iload_n C 3 dX3_narrow_15 rfl ?_
        refine at_iload C 5 dX3_narrow_16 rfl ?_
        refine at_Ni C (As := [.int x3, .int y5_3]) (st := []) (ct_X6_has s3 x3 y5_3) mb_X6_has ml_X3_40 rfl (by decide) rfl (Nat.le_of_ble_eq_true rfl) dX3_narrow_18 ?_
        rintro _ _ ⟨rfl, ⟨rfl, c184⟩ | ⟨rfl, c184⟩⟩
        · refine at_if_eq C 77 dX3_narrow_21 (by decide) (fun c186 => absurd c186 (iv_xeq (iv_c (c := 1) (x := (1 : Int32)) (by decide)) (iv_c (c := 0) (x := (0 : Int32)) (by decide)) (by decide))) (fun c186 => ?_)
          refine at_aload_n C 0 dX3_narrow_24 rfl ?_
          refine gf_X3_18 C dX3_narrow_25 ?_
          refine at_iload C 4 dX3_narrow_28 rfl ?_
          refine at_bipush C (10 : Int32) dX3_narrow_30 (by decide) ?_
          refine at_imul C dX3_narrow_32 ?_
          refine at_iload C 5 dX3_narrow_33 rfl ?_
          refine at_iadd C dX3_narrow_35 ?_
          refine at_iald C (c := 16) rfl (iv_in (n := 110) (iv_add (iv_mul g4 (iv_wk (c := 0) (iv_c (c := 10) (x := (10 : Int32)) (by decide)) (by decide) (Int.le_refl _)) (by decide)) f182 (by decide) (by decide)) (by decide) (by decide)) dX3_narrow_36 ?_
          refine at_aload_n C 0 dX3_narrow_37 rfl ?_
          refine gf_X3_21 C dX3_narrow_38 ?_
          refine at_iload C 5 dX3_narrow_41 rfl ?_
          refine at_iload_n C 1 dX3_narrow_43 rfl ?_
          refine at_iload_n C 2 dX3_narrow_44 rfl ?_
          refine at_Vi C (As := [.int y5_3, .int x1, .int x2]) (st := [.int (ac_ga s3 16 (((x4 * (10 : Int32)) + y5_3)).toNatClampNeg)]) (b := 1) (ci := 0) (ct_X0_shutFor s3 y5_3 x1 x2 hG_3.1) mb_X0_shutFor ml_X3_87 rfl rfl rfl (by decide) rfl (Nat.le_of_ble_eq_true rfl) dX3_narrow_45 ?_
          rintro r187 _ ⟨rfl, f188⟩
          refine at_iconst C (-1 : Int32) dX3_narrow_48 (by decide) ?_
          refine at_ixor C dX3_narrow_49 ?_
          refine at_iand C dX3_narrow_50 ?_
          refine at_istore C (lv' := [(6, .int ((ac_ga s3 16 (((x4 * (10 : Int32)) + y5_3)).toNatClampNeg) &&& (r187 ^^^ (-1 : Int32)))), (0, .ref (e_q E 3)), (1, .int x1), (2, .int x2), (3, .int x3), (4, .int x4), (5, .int y5_3)]) dX3_narrow_51 hn6 rfl ?_
          refine at_iload C 0 dX3_narrow_53 rfl ?_
          refine at_if_ne C 60 dX3_narrow_55 (by decide) (fun c189 => ?_) (fun c189 => ?_)
          · refine at_aload_n C 1 dX3_narrow_60 rfl ?_
            refine gf_X3_18 C dX3_narrow_61 ?_
            refine at_iload C 5 dX3_narrow_64 rfl ?_
            refine at_iconst C (1 : Int32) dX3_narrow_66 (by decide) ?_
            refine at_iadd C dX3_narrow_67 ?_
            refine at_bipush C (10 : Int32) dX3_narrow_68 (by decide) ?_
            refine at_imul C dX3_narrow_70 ?_
            refine at_iload C 6 dX3_narrow_71 rfl ?_
            refine at_iadd C dX3_narrow_73 ?_
            refine at_iload C 0 dX3_narrow_74 rfl ?_
            refine at_iast C (c := 16) rfl (fun f => ac_ast_16 _ _ _ _ f) (iv_in (n := 110) (iv_add (iv_mul (iv_wk (c := 0) (iv_add g4 (iv_c (c := 1) (x := (1 : Int32)) (by decide)) (by decide) (by decide)) (by decide) (Int.le_refl _)) (iv_wk (c := 0) (iv_c (c := 10) (x := (10 : Int32)) (by decide)) (by decide) (Int.le_refl _)) (by decide)) f182 (by decide) (by decide)) (by decide) (by decide)) dX3_narrow_76 ?_
            have hG190 := Gd.sa (c := 16) (i := ((((x4 + (1 : Int32)) * (10 : Int32)) + y5_3)).toNatClampNeg) hG_3 rfl (show iv (-2147483648) 2147483647 ((ac_ga s3 16 (((x4 * (10 : Int32)) + y5_3)).toNatClampNeg) &&& (r187 ^^^ (-1 : Int32))) from (iv_any ((ac_ga s3 16 (((x4 * (10 : Int32)) + y5_3)).toNatClampNeg) &&& (r187 ^^^ (-1 : Int32)))))
            refine at_iinc C (v := (y5_3 + (1 : Int32))) (lv' := [(5, .int (y5_3 + (1 : Int32))), (6, .int ((ac_ga s3 16 (((x4 * (10 : Int32)) + y5_3)).toNatClampNeg) &&& (r187 ^^^ (-1 : Int32)))), (0, .ref (e_q E 3)), (1, .int x1), (2, .int x2), (3, .int x3), (4, .int x4)]) 6 dX3_narrow_77 rfl rfl hn5 rfl ?_
            refine at_goto C 3 dX3_narrow_80 (by decide) ?_
            exact at_sub [2, 3, 4, 5, 6, 0] rfl (ih3 (y5_3 + (1 : Int32)) (ac_sa s3 16 (upd (ac_ga s3 16) ((((x4 + (1 : Int32)) * (10 : Int32)) + y5_3)).toNatClampNeg ((ac_ga s3 16 (((x4 * (10 : Int32)) + y5_3)).toNatClampNeg) &&& (r187 ^^^ (-1 : Int32))))) (mz_up hm3 (ac_ti1 f182 (iv_c (c := 1) (x := (1 : Int32)) (by decide)) (by decide) (by decide) (by decide)) (by decide) (iv_wk (iv_add f182 (iv_c (c := 1) (x := (1 : Int32)) (by decide)) (by decide) (by decide)) (by decide) (by decide) : iv 0 10 (y5_3 + (1 : Int32))).2) (iv_wk (iv_add f182 (iv_c (c := 1) (x := (1 : Int32)) (by decide)) (by decide) (by decide)) (by decide) (by decide) : iv 0 10 (y5_3 + (1 : Int32))) hG190)
          · have f191 : iv 0 0 ((ac_ga s3 16 (((x4 * (10 : Int32)) + y5_3)).toNatClampNeg) &&& (r187 ^^^ (-1 : Int32))) := (iv_eql (iv_c (c := 0) (x := (0 : Int32)) (by decide)) c189)
            refine at_iconst C (0 : Int32) dX3_narrow_58 (by decide) ?_
            exact hR _ _ _ _ dX3_narrow_59 ⟨hG_3, Or.inl rfl⟩
        · refine at_if_eq C 77 dX3_narrow_21 (by decide) (fun c192 => ?_) (fun c192 => absurd (iv_xne (iv_c (c := 0) (x := (0 : Int32)) (by decide)) (iv_c (c := 0) (x := (0 : Int32)) (by decide))) c192)
          refine at_iinc C (v := (y5_3 + (1 : Int32))) (lv' := [(5, .int (y5_3 + (1 : Int32))), (0, .ref (e_q E 3)), (1, .int x1), (2, .int x2), (3, .int x3), (4, .int x4)]) 5 dX3_narrow_77 rfl rfl hn5 rfl ?_
          refine at_goto C 3 dX3_narrow_80 (by decide) ?_
          exact at_sub [1, 2, 3, 4, 5, 0] rfl (ih3 (y5_3 + (1 : Int32)) s3 (mz_up hm3 (ac_ti1 f182 (iv_c (c := 1) (x := (1 : Int32)) (by decide)) (by decide) (by decide) (by decide)) (by decide) (iv_wk (iv_add f182 (iv_c (c := 1) (x := (1 : Int32)) (by decide)) (by decide) (by decide)) (by decide) (by decide) : iv 0 10 (y5_3 + (1 : Int32))).2) (iv_wk (iv_add f182 (iv_c (c := 1) (x := (1 : Int32)) (by decide)) (by decide) (by decide)) (by decide) (by decide) : iv 0 10 (y5_3 + (1 : Int32))) hG_3)
  refine at_iconst C (0 : Int32) dX3_narrow_0 (by decide) ?_
  refine at_istore C (lv' := [(5, .int (0 : Int32)), (0, .ref (e_q E 3)), (1, .int x1), (2, .int x2), (3, .int x3), (4, .int x4)]) dX3_narrow_1 hn5 rfl ?_
  exact at_sub [1, 2, 3, 4, 5, 0] rfl (K3 _ (0 : Int32) σ (Nat.lt_succ_self _) (iv_wk (iv_c (c := 0) (x := (0 : Int32)) (by decide)) (by decide) (by decide) : iv 0 10 (0 : Int32)) hG0)
set_option maxHeartbeats 4000000 in
set_option maxRecDepth 100000 in
theorem cr_X3_packRest (d : Nat) : ∀ (σ : SS) (x1 : Int32) (x2 : Int32), Inv σ → iv 0 10 x2 → (10 - (x2).toInt).toNat < d → ConI yX3_packRest cX3_packRest 7 (some .boolean) (2 + d) (some 3) [.int x1, .int x2] σ (fun r σ' => Gd σ σ' ∧ (r = 0 ∨ r = 1)) := by
  induction d with
  | zero => intro σ x1 x2 hI g2 hmr; exact absurd hmr (Nat.not_lt_zero _)
  | succ d ihr =>
    intro σ x1 x2 hI g2 hmr
    refine conZ_of (by decide) (fun q => Nat.le_of_ble_eq_true rfl) (fun r u h => h.2) (fun E C en hR => ?_)
    have hn3 : 3 < e_n E := by rw [en]; decide
    have hn4 : 4 < e_n E := by rw [en]; decide
    have hn5 : 5 < e_n E := by rw [en]; decide
    have hn6 : 6 < e_n E := by rw [en]; decide
    have hG0 : Gd σ σ := Gd.rf hI
    have K46 : ∀ (n46 : Nat) (y3_46 : Int32) (y4_46 : Int32) (y5_46 : Int32) (y6_46 : Int32) (s46 : SS), (6 - (y6_46).toInt).toNat < n46 → iv 0 9 x2 → iv 0 9 y3_46 → iv (-2147483648) 2147483647 y4_46 → iv (-2147483648) 2147483647 y5_46 → iv 0 6 y6_46 → Gd σ s46 → AT E 46 [(0, .ref (e_q E 3)), (2, .int x2), (3, .int y3_46), (4, .int y4_46), (5, .int y5_46), (6, .int y6_46)] [] s46 := by
      intro n46
      induction n46 with
      | zero => intro y3_46 y4_46 y5_46 y6_46 s46 hm; exact absurd hm (Nat.not_lt_zero _)
      | succ n46 ih46 =>
        intro y3_46 y4_46 y5_46 y6_46 s46 hm46 b2_46 b3_46 b4_46 b5_46 b6_46 hG_46
        refine at_iload C 5 dX3_packRest_46 rfl ?_
        refine at_aload_n C 0 dX3_packRest_48 rfl ?_
        refine gf_X3_21 C dX3_packRest_49 ?_
        refine gf_X3_64 C dX3_packRest_52 ?_
        refine at_icmp_ge C 101 dX3_packRest_55 (by decide) (fun c359 => ?_) (fun c359 => ?_)
        · have f360 : iv 1 6 y6_46 := (iv_ler (show iv 1 6 (ac_gi s46 1) from hG_46.1.1 1) b6_46 c359)
          refine at_iconst C (0 : Int32) dX3_packRest_101 (by decide) ?_
          exact hR _ _ _ _ dX3_packRest_102 ⟨hG_46, Or.inl rfl⟩
        · have f361 : iv 0 5 y6_46 := (iv_ltl b6_46 (show iv 1 6 (ac_gi s46 1) from hG_46.1.1 1) (Int32.not_le.mp c359))
          refine at_iload C 4 dX3_packRest_58 rfl ?_
          refine at_iload C 5 dX3_packRest_60 rfl ?_
          refine at_Ni C (As := [.int y5_46, .int y6_46]) (st := []) (ct_X6_has s46 y5_46 y6_46) mb_X6_has ml_X3_40 rfl (by omega) rfl (Nat.le_of_ble_eq_true rfl) dX3_packRest_62 ?_
          rintro _ _ ⟨rfl, ⟨rfl, c362⟩ | ⟨rfl, c362⟩⟩
          · refine at_if_eq C 95 dX3_packRest_65 (by decide) (fun c364 => absurd c364 (iv_xeq (iv_c (c := 1) (x := (1 : Int32)) (by decide)) (iv_c (c := 0) (x := (0 : Int32)) (by decide)) (by decide))) (fun c364 => ?_)
            refine at_aload_n C 0 dX3_packRest_68 rfl ?_
            refine at_iload_n C 2 dX3_packRest_69 rfl ?_
            refine at_iload C 5 dX3_packRest_70 rfl ?_
            refine at_iload C 3 dX3_packRest_72 rfl ?_
            refine at_iload_n C 1 dX3_packRest_74 rfl ?_
            refine at_Vi C (As := [.int y3_46, .int y6_46, .int y4_46, .int x2]) (st := []) (b := 3) (ci := 3) (ct_X3_narrow s46 y3_46 y6_46 y4_46 x2 hG_46.1 (show iv 0 9 y3_46 from b3_46) (show iv 0 9 x2 from b2_46)) mb_X3_narrow ml_X3_83 rfl rfl rfl (by omega) rfl (Nat.le_of_ble_eq_true rfl) dX3_packRest_75 ?_
            rintro _ u367 ⟨hg366, rfl | rfl⟩
            · have hG369 := hG_46.tr hg366
              refine at_if_eq C 95 dX3_packRest_78 (by decide) (fun c370 => ?_) (fun c370 => absurd (iv_xne (iv_c (c := 0) (x := (0 : Int32)) (by decide)) (iv_c (c := 0) (x := (0 : Int32)) (by decide))) c370)
              refine at_iinc C (v := (y6_46 + (1 : Int32))) (lv' := [(6, .int (y6_46 + (1 : Int32))), (0, .ref (e_q E 3)), (2, .int x2), (3, .int y3_46), (4, .int y4_46), (5, .int y5_46)]) 5 dX3_packRest_95 rfl rfl hn6 rfl ?_
              refine at_goto C 46 dX3_packRest_98 (by decide) ?_
              exact at_sub [1, 2, 3, 4, 5, 0] rfl (ih46 y3_46 y4_46 y5_46 (y6_46 + (1 : Int32)) u367 (mz_up hm46 (ac_ti1 f361 (iv_c (c := 1) (x := (1 : Int32)) (by decide)) (by decide) (by decide) (by decide)) (by decide) (iv_wk (iv_add f361 (iv_c (c := 1) (x := (1 : Int32)) (by decide)) (by decide) (by decide)) (by decide) (by decide) : iv 0 6 (y6_46 + (1 : Int32))).2) (show iv 0 9 x2 from b2_46) (show iv 0 9 y3_46 from b3_46) (show iv (-2147483648) 2147483647 y4_46 from b4_46) (show iv (-2147483648) 2147483647 y5_46 from b5_46) (iv_wk (iv_add f361 (iv_c (c := 1) (x := (1 : Int32)) (by decide)) (by decide) (by decide)) (by decide) (by decide) : iv 0 6 (y6_46 + (1 : Int32))) hG369)
            · have hG371 := hG_46.tr hg366
              refine at_if_eq C 95 dX3_packRest_78 (by decide) (fun c372 => absurd c372 (iv_xeq (iv_c (c := 1) (x := (1 : Int32)) (by decide)) (iv_c (c := 0) (x := (0 : Int32)) (by decide)) (by decide))) (fun c372 => ?_)
              refine at_aload_n C 0 dX3_packRest_81 rfl ?_
              refine at_iload C 3 dX3_packRest_82 rfl ?_
              refine at_iload_n C 1 dX3_packRest_84 rfl ?_
              refine at_iconst C (1 : Int32) dX3_packRest_85 (by decide) ?_
              refine at_iadd C dX3_packRest_86 ?_
              refine at_Vi C (As := [.int y4_46, .int (x2 + (1 : Int32))]) (st := []) (b := 3) (ci := 3) (ihr u367 y4_46 (x2 + (1 : Int32)) hg366.1 (iv_wk (iv_add b2_46 (iv_c (c := 1) (x := (1 : Int32)) (by decide)) (by decide) (by decide)) (by decide) (by decide) : iv 0 10 (x2 + (1 : Int32))) (mz_up hmr (ac_ti1 b2_46 (iv_c (c := 1) (x := (1 : Int32)) (by decide)) (by decide) (by decide) (by decide)) (by decide) (iv_wk (iv_add b2_46 (iv_c (c := 1) (x := (1 : Int32)) (by decide)) (by decide) (by decide)) (by decide) (by decide) : iv (-2147483648) 10 (x2 + (1 : Int32))).2)) mb_X3_packRest ml_X3_70 rfl rfl rfl (Nat.lt_succ_self _) rfl (Nat.le_of_ble_eq_true rfl) dX3_packRest_87 ?_
              rintro _ u375 ⟨hg374, rfl | rfl⟩
              · have hG377 := hG371.tr hg374
                refine at_if_eq C 95 dX3_packRest_90 (by decide) (fun c378 => ?_) (fun c378 => absurd (iv_xne (iv_c (c := 0) (x := (0 : Int32)) (by decide)) (iv_c (c := 0) (x := (0 : Int32)) (by decide))) c378)
                refine at_iinc C (v := (y6_46 + (1 : Int32))) (lv' := [(6, .int (y6_46 + (1 : Int32))), (0, .ref (e_q E 3)), (2, .int x2), (3, .int y3_46), (4, .int y4_46), (5, .int y5_46)]) 5 dX3_packRest_95 rfl rfl hn6 rfl ?_
                refine at_goto C 46 dX3_packRest_98 (by decide) ?_
                exact at_sub [1, 2, 3, 4, 5, 0] rfl (ih46 y3_46 y4_46 y5_46 (y6_46 + (1 : Int32)) u375 (mz_up hm46 (ac_ti1 f361 (iv_c (c := 1) (x := (1 : Int32)) (by decide)) (by decide) (by decide) (by decide)) (by decide) (iv_wk (iv_add f361 (iv_c (c := 1) (x := (1 : Int32)) (by decide)) (by decide) (by decide)) (by decide) (by decide) : iv 0 6 (y6_46 + (1 : Int32))).2) (show iv 0 9 x2 from b2_46) (show iv 0 9 y3_46 from b3_46) (show iv (-2147483648) 2147483647 y4_46 from b4_46) (show iv (-2147483648) 2147483647 y5_46 from b5_46) (iv_wk (iv_add f361 (iv_c (c := 1) (x := (1 : Int32)) (by decide)) (by decide) (by decide)) (by decide) (by decide) : iv 0 6 (y6_46 + (1 : Int32))) hG377)
              · have hG379 := hG371.tr hg374
                refine at_if_eq C 95 dX3_packRest_90 (by decide) (fun c380 => absurd c380 (iv_xeq (iv_c (c := 1) (x := (1 : Int32)) (by decide)) (iv_c (c := 0) (x := (0 : Int32)) (by decide)) (by decide))) (fun c380 => ?_)
                refine at_iconst C (1 : Int32) dX3_packRest_93 (by decide) ?_
                exact hR _ _ _ _ dX3_packRest_94 ⟨hG379, Or.inr rfl⟩
          · refine at_if_eq C 95 dX3_packRest_65 (by decide) (fun c381 => ?_) (fun c381 => absurd (iv_xne (iv_c (c := 0) (x := (0 : Int32)) (by decide)) (iv_c (c := 0) (x := (0 : Int32)) (by decide))) c381)
            refine at_iinc C (v := (y6_46 + (1 : Int32))) (lv' := [(6, .int (y6_46 + (1 : Int32))), (0, .ref (e_q E 3)), (2, .int x2), (3, .int y3_46), (4, .int y4_46), (5, .int y5_46)]) 5 dX3_packRest_95 rfl rfl hn6 rfl ?_
            refine at_goto C 46 dX3_packRest_98 (by decide) ?_
            exact at_sub [1, 2, 3, 4, 5, 0] rfl (ih46 y3_46 y4_46 y5_46 (y6_46 + (1 : Int32)) s46 (mz_up hm46 (ac_ti1 f361 (iv_c (c := 1) (x := (1 : Int32)) (by decide)) (by decide) (by decide) (by decide)) (by decide) (iv_wk (iv_add f361 (iv_c (c := 1) (x := (1 : Int32)) (by decide)) (by decide) (by decide)) (by decide) (by decide) : iv 0 6 (y6_46 + (1 : Int32))).2) (show iv 0 9 x2 from b2_46) (show iv 0 9 y3_46 from b3_46) (show iv (-2147483648) 2147483647 y4_46 from b4_46) (show iv (-2147483648) 2147483647 y5_46 from b5_46) (iv_wk (iv_add f361 (iv_c (c := 1) (x := (1 : Int32)) (by decide)) (by decide) (by decide)) (by decide) (by decide) : iv 0 6 (y6_46 + (1 : Int32))) hG_46)
    refine at_iload_n C 1 dX3_packRest_0 rfl ?_
    refine at_if_ne C 6 dX3_packRest_1 (by decide) (fun c382 => ?_) (fun c382 => ?_)
    · refine at_iload_n C 2 dX3_packRest_6 rfl ?_
      refine at_bipush C (10 : Int32) dX3_packRest_7 (by decide) ?_
      refine at_icmp_lt C 14 dX3_packRest_9 (by decide) (fun c383 => ?_) (fun c383 => ?_)
      · have f384 : iv 0 9 x2 := (iv_ltl g2 (iv_c (c := 10) (x := (10 : Int32)) (by decide)) c383)
        refine at_aload_n C 0 dX3_packRest_14 rfl ?_
        refine at_iload_n C 1 dX3_packRest_15 rfl ?_
        refine at_iload_n C 2 dX3_packRest_16 rfl ?_
        refine at_Vi C (As := [.int x1, .int x2]) (st := []) (b := 3) (ci := 3) (ct_X3_tightest σ x1 x2 hI (show iv 0 9 x2 from f384)) mb_X3_tightest ml_X3_80 rfl rfl rfl (by omega) rfl (Nat.le_of_ble_eq_true rfl) dX3_packRest_17 ?_
        rintro r385 _ ⟨rfl, f386⟩
        refine at_istore_n C (lv' := [(3, .int r385), (0, .ref (e_q E 3)), (1, .int x1), (2, .int x2)]) dX3_packRest_20 hn3 rfl ?_
        refine at_iload_n C 2 dX3_packRest_21 rfl ?_
        refine at_iconst C (1 : Int32) dX3_packRest_22 (by decide) ?_
        refine at_iload_n C 0 dX3_packRest_23 rfl ?_
        refine at_ishl C dX3_packRest_24 ?_
        refine at_iconst C (-1 : Int32) dX3_packRest_25 (by decide) ?_
        refine at_ixor C dX3_packRest_26 ?_
        refine at_iand C dX3_packRest_27 ?_
        refine at_istore C (lv' := [(4, .int (x1 &&& (((1 : Int32) <<< (r385 &&& 31)) ^^^ (-1 : Int32)))), (3, .int r385), (0, .ref (e_q E 3)), (1, .int x1), (2, .int x2)]) dX3_packRest_28 hn4 rfl ?_
        refine at_aload_n C 2 dX3_packRest_30 rfl ?_
        refine gf_X3_18 C dX3_packRest_31 ?_
        refine at_iload_n C 4 dX3_packRest_34 rfl ?_
        refine at_bipush C (10 : Int32) dX3_packRest_35 (by decide) ?_
        refine at_imul C dX3_packRest_37 ?_
        refine at_iload_n C 1 dX3_packRest_38 rfl ?_
        refine at_iadd C dX3_packRest_39 ?_
        refine at_iald C (c := 16) rfl (iv_in (n := 110) (iv_add (iv_mul f384 (iv_wk (c := 0) (iv_c (c := 10) (x := (10 : Int32)) (by decide)) (by decide) (Int.le_refl _)) (by decide)) f386 (by decide) (by decide)) (by decide) (by decide)) dX3_packRest_40 ?_
        refine at_istore C (lv' := [(5, .int (ac_ga σ 16 (((x2 * (10 : Int32)) + r385)).toNatClampNeg)), (4, .int (x1 &&& (((1 : Int32) <<< (r385 &&& 31)) ^^^ (-1 : Int32)))), (3, .int r385), (0, .ref (e_q E 3)), (1, .int x1), (2, .int x2)]) dX3_packRest_41 hn5 rfl ?_
        refine at_iconst C (0 : Int32) dX3_packRest_43 (by decide) ?_
        refine at_istore C (lv' := [(6, .int (0 : Int32)), (5, .int (ac_ga σ 16 (((x2 * (10 : Int32)) + r385)).toNatClampNeg)), (4, .int (x1 &&& (((1 : Int32) <<< (r385 &&& 31)) ^^^ (-1 : Int32)))), (3, .int r385), (0, .ref (e_q E 3)), (1, .int x1), (2, .int x2)]) dX3_packRest_44 hn6 rfl ?_
        exact at_sub [4, 6, 3, 2, 1, 0] rfl (K46 _ r385 (x1 &&& (((1 : Int32) <<< (r385 &&& 31)) ^^^ (-1 : Int32))) (ac_ga σ 16 (((x2 * (10 : Int32)) + r385)).toNatClampNeg) (0 : Int32) σ (Nat.lt_succ_self _) (show iv 0 9 x2 from f384) (show iv 0 9 r385 from f386) (show iv (-2147483648) 2147483647 (x1 &&& (((1 : Int32) <<< (r385 &&& 31)) ^^^ (-1 : Int32))) from (iv_any (x1 &&& (((1 : Int32) <<< (r385 &&& 31)) ^^^ (-1 : Int32))))) (show iv (-2147483648) 2147483647 (ac_ga σ 16 (((x2 * (10 : Int32)) + r385)).toNatClampNeg) from (iv_any (ac_ga σ 16 (((x2 * (10 : Int32)) + r385)).toNatClampNeg))) (iv_wk (iv_c (c := 0) (x := (0 : Int32)) (by decide)) (by decide) (by decide) : iv 0 6 (0 : Int32)) hG0)
      · have f387 : iv 10 10 x2 := (iv_ler (iv_c (c := 10) (x := (10 : Int32)) (by decide)) g2 (Int32.not_lt.mp c383))
        refine at_iconst C (0 : Int32) dX3_packRest_12 (by decide) ?_
        exact hR _ _ _ _ dX3_packRest_13 ⟨hG0, Or.inl rfl⟩
    · have f388 : iv 0 0 x1 := (iv_eql (iv_c (c := 0) (x := (0 : Int32)) (by decide)) c382)
      refine at_iconst C (1 : Int32) dX3_packRest_4 (by decide) ?_
      exact hR _ _ _ _ dX3_packRest_5 ⟨hG0, Or.inr rfl⟩
theorem ct_X3_packRest (σ : SS) (x1 : Int32) (x2 : Int32) (hI : Inv σ) (g2 : iv 0 10 x2) : ConI yX3_packRest cX3_packRest 7 (some .boolean) 13 (some 3) [.int x1, .int x2] σ (fun r σ' => Gd σ σ' ∧ (r = 0 ∨ r = 1)) := cr_X3_packRest 11 σ x1 x2 hI g2 (by have := g2.1; omega)
set_option maxHeartbeats 4000000 in
set_option maxRecDepth 100000 in
theorem ct_X3_packs (σ : SS) (x1 : Int32) (hI : Inv σ) : ConI yX3_packs cX3_packs 4 (some .boolean) 14 (some 3) [.int x1] σ (fun r σ' => Gd σ σ' ∧ (r = 0 ∨ r = 1)) := by
  refine conZ_of (by decide) (fun q => Nat.le_of_ble_eq_true rfl) (fun r u h => h.2) (fun E C en hR => ?_)
  have hn2 : 2 < e_n E := by rw [en]; decide
  have hn3 : 3 < e_n E := by rw [en]; decide
  have hG0 : Gd σ σ := Gd.rf hI
  have K8 : ∀ (n8 : Nat) (y2_8 : Int32) (y3_8 : Int32) (s8 : SS), (10 - (y3_8).toInt).toNat < n8 → iv (-2147483648) 2147483647 y2_8 → iv 0 10 y3_8 → Gd σ s8 → AT E 8 [(0, .ref (e_q E 3)), (2, .int y2_8), (3, .int y3_8)] [] s8 := by
    intro n8
    induction n8 with
    | zero => intro y2_8 y3_8 s8 hm; exact absurd hm (Nat.not_lt_zero _)
    | succ n8 ih8 =>
      intro y2_8 y3_8 s8 hm8 b2_8 b3_8 hG_8
      refine at_iload_n C 2 dX3_packs_8 rfl ?_
      refine at_aload_n C 0 dX3_packs_9 rfl ?_
      refine gf_X3_21 C dX3_packs_10 ?_
      refine gf_X3_57 C dX3_packs_13 ?_
      refine at_icmp_ge C 37 dX3_packs_16 (by decide) (fun c226 => ?_) (fun c226 => ?_)
      · refine at_aload_n C 0 dX3_packs_37 rfl ?_
        refine at_iload_n C 1 dX3_packs_38 rfl ?_
        refine at_iconst C (0 : Int32) dX3_packs_39 (by decide) ?_
        refine at_Vi C (As := [.int y2_8, .int (0 : Int32)]) (st := []) (b := 3) (ci := 3) (ct_X3_packRest s8 y2_8 (0 : Int32) hG_8.1 (iv_wk (iv_c (c := 0) (x := (0 : Int32)) (by decide)) (by decide) (by decide) : iv 0 10 (0 : Int32))) mb_X3_packRest ml_X3_70 rfl rfl rfl (by decide) rfl (Nat.le_of_ble_eq_true rfl) dX3_packs_40 ?_
        rintro _ u229 ⟨hg228, rfl | rfl⟩
        · have hG231 := hG_8.tr hg228
          exact hR _ _ _ _ dX3_packs_43 ⟨hG231, Or.inl rfl⟩
        · have hG232 := hG_8.tr hg228
          exact hR _ _ _ _ dX3_packs_43 ⟨hG232, Or.inr rfl⟩
      · have f233 : iv 0 9 y3_8 := (iv_ltl b3_8 (show iv 0 10 (ac_gi s8 0) from hG_8.1.1 0) (Int32.not_le.mp c226))
        have f234 : iv 1 10 (ac_gi s8 0) := (iv_ltr b3_8 (show iv 0 10 (ac_gi s8 0) from hG_8.1.1 0) (Int32.not_le.mp c226))
        refine at_aload_n C 0 dX3_packs_19 rfl ?_
        refine gf_X3_18 C dX3_packs_20 ?_
        refine at_iload_n C 2 dX3_packs_23 rfl ?_
        refine at_aload_n C 0 dX3_packs_24 rfl ?_
        refine gf_X3_9 C dX3_packs_25 ?_
        refine at_iload_n C 2 dX3_packs_28 rfl ?_
        refine at_iald C (c := 14) rfl (iv_in (n := 10) f233 (by decide) (by decide)) dX3_packs_29 ?_
        refine at_iast C (c := 16) rfl (fun f => ac_ast_16 _ _ _ _ f) (iv_in (n := 110) f233 (by decide) (by decide)) dX3_packs_30 ?_
        have hG235 := Gd.sa (c := 16) (i := (y3_8).toNatClampNeg) hG_8 rfl (show iv (-2147483648) 2147483647 (ac_ga s8 14 (y3_8).toNatClampNeg) from (iv_any (ac_ga s8 14 (y3_8).toNatClampNeg)))
        refine at_iinc C (v := (y3_8 + (1 : Int32))) (lv' := [(3, .int (y3_8 + (1 : Int32))), (0, .ref (e_q E 3)), (2, .int y2_8)]) 2 dX3_packs_31 rfl rfl hn3 rfl ?_
        refine at_goto C 8 dX3_packs_34 (by decide) ?_
        exact at_sub [1, 2, 0] rfl (ih8 y2_8 (y3_8 + (1 : Int32)) (ac_sa s8 16 (upd (ac_ga s8 16) (y3_8).toNatClampNeg (ac_ga s8 14 (y3_8).toNatClampNeg))) (mz_up hm8 (ac_ti1 f233 (iv_c (c := 1) (x := (1 : Int32)) (by decide)) (by decide) (by decide) (by decide)) (by decide) (iv_wk (iv_add f233 (iv_c (c := 1) (x := (1 : Int32)) (by decide)) (by decide) (by decide)) (by decide) (by decide) : iv 0 10 (y3_8 + (1 : Int32))).2) (show iv (-2147483648) 2147483647 y2_8 from b2_8) (iv_wk (iv_add f233 (iv_c (c := 1) (x := (1 : Int32)) (by decide)) (by decide) (by decide)) (by decide) (by decide) : iv 0 10 (y3_8 + (1 : Int32))) hG235)
  refine at_aload_n C 0 dX3_packs_0 rfl ?_
  refine at_iload_n C 1 dX3_packs_1 rfl ?_
  refine at_Vi C (As := [.int x1]) (st := []) (b := 3) (ci := 3) (ct_X3_hardPart σ x1 hI) mb_X3_hardPart ml_X3_67 rfl rfl rfl (by decide) rfl (Nat.le_of_ble_eq_true rfl) dX3_packs_2 ?_
  rintro r236 u238 ⟨hg239, f237⟩
  have hG240 := hG0.tr hg239
  refine at_istore_n C (lv' := [(2, .int r236), (0, .ref (e_q E 3)), (1, .int x1)]) dX3_packs_5 hn2 rfl ?_
  refine at_iconst C (0 : Int32) dX3_packs_6 (by decide) ?_
  refine at_istore_n C (lv' := [(3, .int (0 : Int32)), (2, .int r236), (0, .ref (e_q E 3)), (1, .int x1)]) dX3_packs_7 hn3 rfl ?_
  exact at_sub [2, 1, 0] rfl (K8 _ r236 (0 : Int32) u238 (Nat.lt_succ_self _) (show iv (-2147483648) 2147483647 r236 from f237) (iv_wk (iv_c (c := 0) (x := (0 : Int32)) (by decide)) (by decide) (by decide) : iv 0 10 (0 : Int32)) hG240)
set_option maxHeartbeats 4000000 in
set_option maxRecDepth 100000 in
theorem ct_X3_allowAll (σ : SS) (hI : Inv σ) : ConV yX3_allowAll cX3_allowAll 2 none 1 (some 3) [] σ (fun σ' => Gd σ σ') := by
  refine conV_of (by decide) (fun q => Nat.le_of_ble_eq_true rfl) (fun E C en hR => ?_)
  have hn1 : 1 < e_n E := by rw [en]; decide
  have hG0 : Gd σ σ := Gd.rf hI
  have K2 : ∀ (n2 : Nat) (y1_2 : Int32) (s2 : SS), (10 - (y1_2).toInt).toNat < n2 → iv 0 10 y1_2 → Gd σ s2 → AT E 2 [(0, .ref (e_q E 3)), (1, .int y1_2)] [] s2 := by
    intro n2
    induction n2 with
    | zero => intro y1_2 s2 hm; exact absurd hm (Nat.not_lt_zero _)
    | succ n2 ih2 =>
      intro y1_2 s2 hm2 b1_2 hG_2
      refine at_iload_n C 1 dX3_allowAll_2 rfl ?_
      refine at_aload_n C 0 dX3_allowAll_3 rfl ?_
      refine gf_X3_21 C dX3_allowAll_4 ?_
      refine gf_X3_57 C dX3_allowAll_7 ?_
      refine at_icmp_ge C 33 dX3_allowAll_10 (by decide) (fun c91 => ?_) (fun c91 => ?_)
      · exact hR _ _ _ dX3_allowAll_33 hG_2
      · have f92 : iv 0 9 y1_2 := (iv_ltl b1_2 (show iv 0 10 (ac_gi s2 0) from hG_2.1.1 0) (Int32.not_le.mp c91))
        have f93 : iv 1 10 (ac_gi s2 0) := (iv_ltr b1_2 (show iv 0 10 (ac_gi s2 0) from hG_2.1.1 0) (Int32.not_le.mp c91))
        refine at_aload_n C 0 dX3_allowAll_13 rfl ?_
        refine gf_X3_9 C dX3_allowAll_14 ?_
        refine at_iload_n C 1 dX3_allowAll_17 rfl ?_
        refine at_aload_n C 0 dX3_allowAll_18 rfl ?_
        refine gf_X3_21 C dX3_allowAll_19 ?_
        refine at_iload_n C 1 dX3_allowAll_22 rfl ?_
        refine at_Vi C (As := [.int y1_2]) (st := [.int y1_2, .ref (e_q E 14)]) (b := 1) (ci := 0) (ct_X0_mayHave s2 y1_2 hG_2.1) mb_X0_mayHave ml_X3_61 rfl rfl rfl (by decide) rfl (Nat.le_of_ble_eq_true rfl) dX3_allowAll_23 ?_
        rintro r94 _ ⟨rfl, f95⟩
        refine at_iast C (c := 14) rfl (fun f => ac_ast_14 _ _ _ _ f) (iv_in (n := 10) f92 (by decide) (by decide)) dX3_allowAll_26 ?_
        have hG96 := Gd.sa (c := 14) (i := (y1_2).toNatClampNeg) hG_2 rfl (iv_wk f95 (by decide) (by decide) : iv (-2147483648) 2147483647 r94)
        refine at_iinc C (v := (y1_2 + (1 : Int32))) (lv' := [(1, .int (y1_2 + (1 : Int32))), (0, .ref (e_q E 3))]) 1 dX3_allowAll_27 rfl rfl hn1 rfl ?_
        refine at_goto C 2 dX3_allowAll_30 (by decide) ?_
        exact at_sub [1, 0] rfl (ih2 (y1_2 + (1 : Int32)) (ac_sa s2 14 (upd (ac_ga s2 14) (y1_2).toNatClampNeg r94)) (mz_up hm2 (ac_ti1 f92 (iv_c (c := 1) (x := (1 : Int32)) (by decide)) (by decide) (by decide) (by decide)) (by decide) (iv_wk (iv_add f92 (iv_c (c := 1) (x := (1 : Int32)) (by decide)) (by decide) (by decide)) (by decide) (by decide) : iv 0 10 (y1_2 + (1 : Int32))).2) (iv_wk (iv_add f92 (iv_c (c := 1) (x := (1 : Int32)) (by decide)) (by decide) (by decide)) (by decide) (by decide) : iv 0 10 (y1_2 + (1 : Int32))) hG96)
  refine at_iconst C (0 : Int32) dX3_allowAll_0 (by decide) ?_
  refine at_istore_n C (lv' := [(1, .int (0 : Int32)), (0, .ref (e_q E 3))]) dX3_allowAll_1 hn1 rfl ?_
  exact at_sub [1, 0] rfl (K2 _ (0 : Int32) σ (Nat.lt_succ_self _) (iv_wk (iv_c (c := 0) (x := (0 : Int32)) (by decide)) (by decide) (by decide) : iv 0 10 (0 : Int32)) hG0)
set_option maxHeartbeats 4000000 in
set_option maxRecDepth 100000 in
theorem ct_X3_canPack (σ : SS) (x1 : Int32) (hI : Inv σ) : ConI yX3_canPack cX3_canPack 2 (some .boolean) 15 (some 3) [.int x1] σ (fun r σ' => Gd σ σ' ∧ (r = 0 ∨ r = 1)) := by
  refine conZ_of (by decide) (fun q => Nat.le_of_ble_eq_true rfl) (fun r u h => h.2) (fun E C en hR => ?_)
  have hG0 : Gd σ σ := Gd.rf hI
  refine at_aload_n C 0 dX3_canPack_0 rfl ?_
  refine at_Vv C (As := []) (st := []) (b := 3) (ci := 3) (ct_X3_allowAll σ hI) mb_X3_allowAll ml_X3_25 rfl rfl rfl (by decide) rfl (Nat.le_of_ble_eq_true rfl) dX3_canPack_1 ?_
  rintro u64 hg65
  have hG66 := hG0.tr hg65
  refine at_aload_n C 0 dX3_canPack_4 rfl ?_
  refine at_iload_n C 1 dX3_canPack_5 rfl ?_
  refine at_Vi C (As := [.int x1]) (st := []) (b := 3) (ci := 3) (ct_X3_packs u64 x1 hg65.1) mb_X3_packs ml_X3_28 rfl rfl rfl (by decide) rfl (Nat.le_of_ble_eq_true rfl) dX3_canPack_6 ?_
  rintro _ u69 ⟨hg68, rfl | rfl⟩
  · have hG71 := hG66.tr hg68
    exact hR _ _ _ _ dX3_canPack_9 ⟨hG71, Or.inl rfl⟩
  · have hG72 := hG66.tr hg68
    exact hR _ _ _ _ dX3_canPack_9 ⟨hG72, Or.inr rfl⟩
set_option maxHeartbeats 4000000 in
set_option maxRecDepth 100000 in
theorem ct_X3_fixFirst (σ : SS) (x1 : Int32) (x2 : Int32) (hI : Inv σ) (g2 : iv 0 9 x2) : ConV yX3_fixFirst cX3_fixFirst 5 none 15 (some 3) [.int x1, .int x2] σ (fun σ' => Gd σ σ') := by
  refine conV_of (by decide) (fun q => Nat.le_of_ble_eq_true rfl) (fun E C en hR => ?_)
  have hn3 : 3 < e_n E := by rw [en]; decide
  have hn4 : 4 < e_n E := by rw [en]; decide
  have hG0 : Gd σ σ := Gd.rf hI
  have K10 : ∀ (n10 : Nat) (y3_10 : Int32) (y4_10 : Int32) (s10 : SS), (6 - (y4_10).toInt).toNat < n10 → iv (-2147483648) 2147483647 y3_10 → iv 0 6 y4_10 → Gd σ s10 → AT E 10 [(0, .ref (e_q E 3)), (1, .int x1), (2, .int x2), (3, .int y3_10), (4, .int y4_10)] [] s10 := by
    intro n10
    induction n10 with
    | zero => intro y3_10 y4_10 s10 hm; exact absurd hm (Nat.not_lt_zero _)
    | succ n10 ih10 =>
      intro y3_10 y4_10 s10 hm10 b3_10 b4_10 hG_10
      refine at_iload C 4 dX3_fixFirst_10 rfl ?_
      refine at_aload_n C 0 dX3_fixFirst_12 rfl ?_
      refine gf_X3_21 C dX3_fixFirst_13 ?_
      refine gf_X3_64 C dX3_fixFirst_16 ?_
      refine at_icmp_ge C 56 dX3_fixFirst_19 (by decide) (fun c191 => ?_) (fun c191 => ?_)
      · have f192 : iv 1 6 y4_10 := (iv_ler (show iv 1 6 (ac_gi s10 1) from hG_10.1.1 1) b4_10 c191)
        exact hR _ _ _ dX3_fixFirst_56 hG_10
      · have f193 : iv 0 5 y4_10 := (iv_ltl b4_10 (show iv 1 6 (ac_gi s10 1) from hG_10.1.1 1) (Int32.not_le.mp c191))
        refine at_iload_n C 3 dX3_fixFirst_22 rfl ?_
        refine at_iload C 4 dX3_fixFirst_23 rfl ?_
        refine at_Ni C (As := [.int y3_10, .int y4_10]) (st := []) (ct_X6_has s10 y3_10 y4_10) mb_X6_has ml_X3_40 rfl (by decide) rfl (Nat.le_of_ble_eq_true rfl) dX3_fixFirst_25 ?_
        rintro _ _ ⟨rfl, ⟨rfl, c194⟩ | ⟨rfl, c194⟩⟩
        · refine at_if_eq C 50 dX3_fixFirst_28 (by decide) (fun c196 => absurd c196 (iv_xeq (iv_c (c := 1) (x := (1 : Int32)) (by decide)) (iv_c (c := 0) (x := (0 : Int32)) (by decide)) (by decide))) (fun c196 => ?_)
          refine at_aload_n C 0 dX3_fixFirst_31 rfl ?_
          refine gf_X3_9 C dX3_fixFirst_32 ?_
          refine at_iload_n C 2 dX3_fixFirst_35 rfl ?_
          refine at_iconst C (1 : Int32) dX3_fixFirst_36 (by decide) ?_
          refine at_iload C 4 dX3_fixFirst_37 rfl ?_
          refine at_ishl C dX3_fixFirst_39 ?_
          refine at_iast C (c := 14) rfl (fun f => ac_ast_14 _ _ _ _ f) (iv_in (n := 10) g2 (by decide) (by decide)) dX3_fixFirst_40 ?_
          have hG197 := Gd.sa (c := 14) (i := (x2).toNatClampNeg) hG_10 rfl (iv_wk (iv_shl1 (a := 0) (b := 5) f193 (by decide)) (by decide) (by decide) : iv (-2147483648) 2147483647 ((1 : Int32) <<< (y4_10 &&& 31)))
          refine at_aload_n C 0 dX3_fixFirst_41 rfl ?_
          refine at_iload_n C 1 dX3_fixFirst_42 rfl ?_
          refine at_Vi C (As := [.int x1]) (st := []) (b := 3) (ci := 3) (ct_X3_packs (ac_sa s10 14 (upd (ac_ga s10 14) (x2).toNatClampNeg ((1 : Int32) <<< (y4_10 &&& 31)))) x1 hG197.1) mb_X3_packs ml_X3_28 rfl rfl rfl (by decide) rfl (Nat.le_of_ble_eq_true rfl) dX3_fixFirst_43 ?_
          rintro _ u200 ⟨hg199, rfl | rfl⟩
          · have hG202 := hG197.tr hg199
            refine at_if_eq C 50 dX3_fixFirst_46 (by decide) (fun c203 => ?_) (fun c203 => absurd (iv_xne (iv_c (c := 0) (x := (0 : Int32)) (by decide)) (iv_c (c := 0) (x := (0 : Int32)) (by decide))) c203)
            refine at_iinc C (v := (y4_10 + (1 : Int32))) (lv' := [(4, .int (y4_10 + (1 : Int32))), (0, .ref (e_q E 3)), (1, .int x1), (2, .int x2), (3, .int y3_10)]) 4 dX3_fixFirst_50 rfl rfl hn4 rfl ?_
            refine at_goto C 10 dX3_fixFirst_53 (by decide) ?_
            exact at_sub [1, 2, 3, 4, 0] rfl (ih10 y3_10 (y4_10 + (1 : Int32)) u200 (mz_up hm10 (ac_ti1 f193 (iv_c (c := 1) (x := (1 : Int32)) (by decide)) (by decide) (by decide) (by decide)) (by decide) (iv_wk (iv_add f193 (iv_c (c := 1) (x := (1 : Int32)) (by decide)) (by decide) (by decide)) (by decide) (by decide) : iv 0 6 (y4_10 + (1 : Int32))).2) (show iv (-2147483648) 2147483647 y3_10 from b3_10) (iv_wk (iv_add f193 (iv_c (c := 1) (x := (1 : Int32)) (by decide)) (by decide) (by decide)) (by decide) (by decide) : iv 0 6 (y4_10 + (1 : Int32))) hG202)
          · have hG204 := hG197.tr hg199
            refine at_if_eq C 50 dX3_fixFirst_46 (by decide) (fun c205 => absurd c205 (iv_xeq (iv_c (c := 1) (x := (1 : Int32)) (by decide)) (iv_c (c := 0) (x := (0 : Int32)) (by decide)) (by decide))) (fun c205 => ?_)
            exact hR _ _ _ dX3_fixFirst_49 hG204
        · refine at_if_eq C 50 dX3_fixFirst_28 (by decide) (fun c206 => ?_) (fun c206 => absurd (iv_xne (iv_c (c := 0) (x := (0 : Int32)) (by decide)) (iv_c (c := 0) (x := (0 : Int32)) (by decide))) c206)
          refine at_iinc C (v := (y4_10 + (1 : Int32))) (lv' := [(4, .int (y4_10 + (1 : Int32))), (0, .ref (e_q E 3)), (1, .int x1), (2, .int x2), (3, .int y3_10)]) 4 dX3_fixFirst_50 rfl rfl hn4 rfl ?_
          refine at_goto C 10 dX3_fixFirst_53 (by decide) ?_
          exact at_sub [1, 2, 3, 4, 0] rfl (ih10 y3_10 (y4_10 + (1 : Int32)) s10 (mz_up hm10 (ac_ti1 f193 (iv_c (c := 1) (x := (1 : Int32)) (by decide)) (by decide) (by decide) (by decide)) (by decide) (iv_wk (iv_add f193 (iv_c (c := 1) (x := (1 : Int32)) (by decide)) (by decide) (by decide)) (by decide) (by decide) : iv 0 6 (y4_10 + (1 : Int32))).2) (show iv (-2147483648) 2147483647 y3_10 from b3_10) (iv_wk (iv_add f193 (iv_c (c := 1) (x := (1 : Int32)) (by decide)) (by decide) (by decide)) (by decide) (by decide) : iv 0 6 (y4_10 + (1 : Int32))) hG_10)
  refine at_aload_n C 0 dX3_fixFirst_0 rfl ?_
  refine gf_X3_9 C dX3_fixFirst_1 ?_
  refine at_iload_n C 2 dX3_fixFirst_4 rfl ?_
  refine at_iald C (c := 14) rfl (iv_in (n := 10) g2 (by decide) (by decide)) dX3_fixFirst_5 ?_
  refine at_istore_n C (lv' := [(3, .int (ac_ga σ 14 (x2).toNatClampNeg)), (0, .ref (e_q E 3)), (1, .int x1), (2, .int x2)]) dX3_fixFirst_6 hn3 rfl ?_
  refine at_iconst C (0 : Int32) dX3_fixFirst_7 (by decide) ?_
  refine at_istore C (lv' := [(4, .int (0 : Int32)), (3, .int (ac_ga σ 14 (x2).toNatClampNeg)), (0, .ref (e_q E 3)), (1, .int x1), (2, .int x2)]) dX3_fixFirst_8 hn4 rfl ?_
  exact at_sub [2, 3, 4, 1, 0] rfl (K10 _ (ac_ga σ 14 (x2).toNatClampNeg) (0 : Int32) σ (Nat.lt_succ_self _) (show iv (-2147483648) 2147483647 (ac_ga σ 14 (x2).toNatClampNeg) from (iv_any (ac_ga σ 14 (x2).toNatClampNeg))) (iv_wk (iv_c (c := 0) (x := (0 : Int32)) (by decide)) (by decide) (by decide) : iv 0 6 (0 : Int32)) hG0)
set_option maxHeartbeats 4000000 in
set_option maxRecDepth 100000 in
theorem ct_X3_firstChannel (σ : SS) (x1 : Int32) (x2 : Int32) (hI : Inv σ) : ConI yX3_firstChannel cX3_firstChannel 4 (some .int) 16 (some 3) [.int x1, .int x2] σ (fun r σ' => Gd σ σ' ∧ iv (-2147483648) 2147483647 r) := by
  refine conI_of (by decide) (fun q => Nat.le_of_ble_eq_true rfl) (fun E C en hR => ?_)
  have hn3 : 3 < e_n E := by rw [en]; decide
  have hG0 : Gd σ σ := Gd.rf hI
  have K23 : ∀ (n23 : Nat) (y3_23 : Int32) (s23 : SS), (10 - (y3_23).toInt).toNat < n23 → iv 0 9 x2 → iv 0 10 y3_23 → Gd σ s23 → AT E 23 [(0, .ref (e_q E 3)), (1, .int x1), (2, .int x2), (3, .int y3_23)] [] s23 := by
    intro n23
    induction n23 with
    | zero => intro y3_23 s23 hm; exact absurd hm (Nat.not_lt_zero _)
    | succ n23 ih23 =>
      intro y3_23 s23 hm23 b2_23 b3_23 hG_23
      refine at_iload_n C 3 dX3_firstChannel_23 rfl ?_
      refine at_iload_n C 2 dX3_firstChannel_24 rfl ?_
      refine at_icmp_gt C 48 dX3_firstChannel_25 (by decide) (fun c372 => ?_) (fun c372 => ?_)
      · have f373 : iv 1 10 y3_23 := (iv_ltr b2_23 b3_23 c372)
        refine at_aload_n C 0 dX3_firstChannel_48 rfl ?_
        refine gf_X3_9 C dX3_firstChannel_49 ?_
        refine at_iload_n C 2 dX3_firstChannel_52 rfl ?_
        refine at_iald C (c := 14) rfl (iv_in (n := 10) b2_23 (by decide) (by decide)) dX3_firstChannel_53 ?_
        refine at_Ni C (As := [.int (ac_ga s23 14 (x2).toNatClampNeg)]) (st := []) (ct_X6_placeOf s23 (ac_ga s23 14 (x2).toNatClampNeg)) mb_X6_placeOf ml_X3_48 rfl (by decide) rfl (Nat.le_of_ble_eq_true rfl) dX3_firstChannel_54 ?_
        rintro r374 _ ⟨rfl, f375⟩
        exact hR _ _ _ _ dX3_firstChannel_57 ⟨hG_23, (iv_wk f375 (by decide) (by decide) : iv (-2147483648) 2147483647 r374)⟩
      · have f376 : iv 0 9 y3_23 := (iv_lel b3_23 b2_23 (Int32.not_lt.mp c372))
        refine at_iload_n C 1 dX3_firstChannel_28 rfl ?_
        refine at_iload_n C 3 dX3_firstChannel_29 rfl ?_
        refine at_Ni C (As := [.int x1, .int y3_23]) (st := []) (ct_X6_has s23 x1 y3_23) mb_X6_has ml_X3_40 rfl (by decide) rfl (Nat.le_of_ble_eq_true rfl) dX3_firstChannel_30 ?_
        rintro _ _ ⟨rfl, ⟨rfl, c377⟩ | ⟨rfl, c377⟩⟩
        · refine at_if_eq C 42 dX3_firstChannel_33 (by decide) (fun c379 => absurd c379 (iv_xeq (iv_c (c := 1) (x := (1 : Int32)) (by decide)) (iv_c (c := 0) (x := (0 : Int32)) (by decide)) (by decide))) (fun c379 => ?_)
          refine at_aload_n C 0 dX3_firstChannel_36 rfl ?_
          refine at_iload_n C 1 dX3_firstChannel_37 rfl ?_
          refine at_iload_n C 3 dX3_firstChannel_38 rfl ?_
          refine at_Vv C (As := [.int x1, .int y3_23]) (st := []) (b := 3) (ci := 3) (ct_X3_fixFirst s23 x1 y3_23 hG_23.1 (show iv 0 9 y3_23 from f376)) mb_X3_fixFirst ml_X3_44 rfl rfl rfl (by decide) rfl (Nat.le_of_ble_eq_true rfl) dX3_firstChannel_39 ?_
          rintro u380 hg381
          have hG382 := hG_23.tr hg381
          refine at_iinc C (v := (y3_23 + (1 : Int32))) (lv' := [(3, .int (y3_23 + (1 : Int32))), (0, .ref (e_q E 3)), (1, .int x1), (2, .int x2)]) 3 dX3_firstChannel_42 rfl rfl hn3 rfl ?_
          refine at_goto C 23 dX3_firstChannel_45 (by decide) ?_
          exact at_sub [1, 2, 3, 0] rfl (ih23 (y3_23 + (1 : Int32)) u380 (mz_up hm23 (ac_ti1 f376 (iv_c (c := 1) (x := (1 : Int32)) (by decide)) (by decide) (by decide) (by decide)) (by decide) (iv_wk (iv_add f376 (iv_c (c := 1) (x := (1 : Int32)) (by decide)) (by decide) (by decide)) (by decide) (by decide) : iv 0 10 (y3_23 + (1 : Int32))).2) (show iv 0 9 x2 from b2_23) (iv_wk (iv_add f376 (iv_c (c := 1) (x := (1 : Int32)) (by decide)) (by decide) (by decide)) (by decide) (by decide) : iv 0 10 (y3_23 + (1 : Int32))) hG382)
        · refine at_if_eq C 42 dX3_firstChannel_33 (by decide) (fun c383 => ?_) (fun c383 => absurd (iv_xne (iv_c (c := 0) (x := (0 : Int32)) (by decide)) (iv_c (c := 0) (x := (0 : Int32)) (by decide))) c383)
          refine at_iinc C (v := (y3_23 + (1 : Int32))) (lv' := [(3, .int (y3_23 + (1 : Int32))), (0, .ref (e_q E 3)), (1, .int x1), (2, .int x2)]) 3 dX3_firstChannel_42 rfl rfl hn3 rfl ?_
          refine at_goto C 23 dX3_firstChannel_45 (by decide) ?_
          exact at_sub [1, 2, 3, 0] rfl (ih23 (y3_23 + (1 : Int32)) s23 (mz_up hm23 (ac_ti1 f376 (iv_c (c := 1) (x := (1 : Int32)) (by decide)) (by decide) (by decide) (by decide)) (by decide) (iv_wk (iv_add f376 (iv_c (c := 1) (x := (1 : Int32)) (by decide)) (by decide) (by decide)) (by decide) (by decide) : iv 0 10 (y3_23 + (1 : Int32))).2) (show iv 0 9 x2 from b2_23) (iv_wk (iv_add f376 (iv_c (c := 1) (x := (1 : Int32)) (by decide)) (by decide) (by decide)) (by decide) (by decide) : iv 0 10 (y3_23 + (1 : Int32))) hG_23)
  refine at_aload_n C 0 dX3_firstChannel_0 rfl ?_
  refine gf_X3_21 C dX3_firstChannel_1 ?_
  refine at_iload_n C 2 dX3_firstChannel_4 rfl ?_
  refine at_Vi C (As := [.int x2]) (st := []) (b := 1) (ci := 0) (ct_X0_isMast σ x2) mb_X0_isMast ml_X3_32 rfl rfl rfl (by decide) rfl (Nat.le_of_ble_eq_true rfl) dX3_firstChannel_5 ?_
  rintro _ _ ⟨rfl, ⟨rfl, c384⟩ | ⟨rfl, c384⟩⟩
  · have f386 : iv 0 9 x2 := (iv_of3 c384 (show iv 0 10 (ac_gi σ 0) from hI.1 0))
    refine at_if_eq C 19 dX3_firstChannel_8 (by decide) (fun c387 => absurd c387 (iv_xeq (iv_c (c := 1) (x := (1 : Int32)) (by decide)) (iv_c (c := 0) (x := (0 : Int32)) (by decide)) (by decide))) (fun c387 => ?_)
    refine at_aload_n C 0 dX3_firstChannel_11 rfl ?_
    refine at_iload_n C 1 dX3_firstChannel_12 rfl ?_
    refine at_Vi C (As := [.int x1]) (st := []) (b := 3) (ci := 3) (ct_X3_canPack σ x1 hI) mb_X3_canPack ml_X3_37 rfl rfl rfl (by decide) rfl (Nat.le_of_ble_eq_true rfl) dX3_firstChannel_13 ?_
    rintro _ u390 ⟨hg389, rfl | rfl⟩
    · have hG392 := hG0.tr hg389
      refine at_if_ne C 21 dX3_firstChannel_16 (by decide) (fun c393 => absurd (iv_xne (iv_c (c := 0) (x := (0 : Int32)) (by decide)) (iv_c (c := 0) (x := (0 : Int32)) (by decide))) c393) (fun c393 => ?_)
      refine at_iconst C (-1 : Int32) dX3_firstChannel_19 (by decide) ?_
      exact hR _ _ _ _ dX3_firstChannel_20 ⟨hG392, (iv_wk (iv_c (c := (-1)) (x := (-1 : Int32)) (by decide)) (by decide) (by decide) : iv (-2147483648) 2147483647 (-1 : Int32))⟩
    · have hG394 := hG0.tr hg389
      refine at_if_ne C 21 dX3_firstChannel_16 (by decide) (fun c395 => ?_) (fun c395 => absurd c395 (iv_xeq (iv_c (c := 1) (x := (1 : Int32)) (by decide)) (iv_c (c := 0) (x := (0 : Int32)) (by decide)) (by decide)))
      refine at_iconst C (0 : Int32) dX3_firstChannel_21 (by decide) ?_
      refine at_istore_n C (lv' := [(3, .int (0 : Int32)), (0, .ref (e_q E 3)), (1, .int x1), (2, .int x2)]) dX3_firstChannel_22 hn3 rfl ?_
      exact at_sub [1, 2, 3, 0] rfl (K23 _ (0 : Int32) u390 (Nat.lt_succ_self _) (show iv 0 9 x2 from f386) (iv_wk (iv_c (c := 0) (x := (0 : Int32)) (by decide)) (by decide) (by decide) : iv 0 10 (0 : Int32)) hG394)
  · refine at_if_eq C 19 dX3_firstChannel_8 (by decide) (fun c396 => ?_) (fun c396 => absurd (iv_xne (iv_c (c := 0) (x := (0 : Int32)) (by decide)) (iv_c (c := 0) (x := (0 : Int32)) (by decide))) c396)
    refine at_iconst C (-1 : Int32) dX3_firstChannel_19 (by decide) ?_
    exact hR _ _ _ _ dX3_firstChannel_20 ⟨hG0, (iv_wk (iv_c (c := (-1)) (x := (-1 : Int32)) (by decide)) (by decide) (by decide) : iv (-2147483648) 2147483647 (-1 : Int32))⟩
set_option maxHeartbeats 4000000 in
set_option maxRecDepth 100000 in
theorem ct_X3_leastPartThatFails (σ : SS) (x1 : Int32) (hI : Inv σ) (g1 : iv 0 1023 x1) : ConI yX3_leastPartThatFails cX3_leastPartThatFails 4 (some .int) 16 (some 3) [.int x1] σ (fun r σ' => Gd σ σ' ∧ iv (-2147483648) 2147483647 r) := by
  refine conI_of (by decide) (fun q => Nat.le_of_ble_eq_true rfl) (fun E C en hR => ?_)
  have hn2 : 2 < e_n E := by rw [en]; decide
  have hn3 : 3 < e_n E := by rw [en]; decide
  have hG0 : Gd σ σ := Gd.rf hI
  have K2 : ∀ (n2 : Nat) (y2_2 : Int32) (s2 : SS), (11 - (y2_2).toInt).toNat < n2 → iv 1 11 y2_2 → Gd σ s2 → AT E 2 [(0, .ref (e_q E 3)), (1, .int x1), (2, .int y2_2)] [] s2 := by
    intro n2
    induction n2 with
    | zero => intro y2_2 s2 hm; exact absurd hm (Nat.not_lt_zero _)
    | succ n2 ih2 =>
      intro y2_2 s2 hm2 b2_2 hG_2
      have K10 : ∀ (n10 : Nat) (y3_10 : Int32) (s10 : SS), (1024 - (y3_10).toInt).toNat < n10 → iv 1 10 y2_2 → iv 1 1024 y3_10 → Gd σ s10 → AT E 10 [(0, .ref (e_q E 3)), (1, .int x1), (2, .int y2_2), (3, .int y3_10)] [] s10 := by
        intro n10
        induction n10 with
        | zero => intro y3_10 s10 hm; exact absurd hm (Nat.not_lt_zero _)
        | succ n10 ih10 =>
          intro y3_10 s10 hm10 b2_10 b3_10 hG_10
          refine at_iload_n C 3 dX3_leastPartThatFails_10 rfl ?_
          refine at_iload_n C 1 dX3_leastPartThatFails_11 rfl ?_
          refine at_icmp_gt C 47 dX3_leastPartThatFails_12 (by decide) (fun c709 => ?_) (fun c709 => ?_)
          · refine at_iinc C (v := (y2_2 + (1 : Int32))) (lv' := [(2, .int (y2_2 + (1 : Int32))), (0, .ref (e_q E 3)), (1, .int x1), (3, .int y3_10)]) 2 dX3_leastPartThatFails_47 rfl rfl hn2 rfl ?_
            refine at_goto C 2 dX3_leastPartThatFails_50 (by decide) ?_
            exact at_sub [1, 2, 0] rfl (ih2 (y2_2 + (1 : Int32)) s10 (mz_up hm2 (ac_ti1 b2_10 (iv_c (c := 1) (x := (1 : Int32)) (by decide)) (by decide) (by decide) (by decide)) (by decide) (iv_wk (iv_add b2_10 (iv_c (c := 1) (x := (1 : Int32)) (by decide)) (by decide) (by decide)) (by decide) (by decide) : iv 1 11 (y2_2 + (1 : Int32))).2) (iv_wk (iv_add b2_10 (iv_c (c := 1) (x := (1 : Int32)) (by decide)) (by decide) (by decide)) (by decide) (by decide) : iv 1 11 (y2_2 + (1 : Int32))) hG_10)
          · have f710 : iv 1 1023 y3_10 := (iv_lel b3_10 g1 (Int32.not_lt.mp c709))
            have f711 : iv 1 1023 x1 := (iv_ler b3_10 g1 (Int32.not_lt.mp c709))
            refine at_iload_n C 3 dX3_leastPartThatFails_15 rfl ?_
            refine at_iload_n C 1 dX3_leastPartThatFails_16 rfl ?_
            refine at_iconst C (-1 : Int32) dX3_leastPartThatFails_17 (by decide) ?_
            refine at_ixor C dX3_leastPartThatFails_18 ?_
            refine at_iand C dX3_leastPartThatFails_19 ?_
            refine at_if_ne C 41 dX3_leastPartThatFails_20 (by decide) (fun c712 => ?_) (fun c712 => ?_)
            · have f713 : iv 1 1023 (y3_10 &&& (x1 ^^^ (-1 : Int32))) := (iv_nel (iv_andl (iv_wk (c := 0) f710 (by decide) (Int.le_refl _))) (by decide) c712)
              refine at_iinc C (v := (y3_10 + (1 : Int32))) (lv' := [(3, .int (y3_10 + (1 : Int32))), (0, .ref (e_q E 3)), (1, .int x1), (2, .int y2_2)]) 3 dX3_leastPartThatFails_41 rfl rfl hn3 rfl ?_
              refine at_goto C 10 dX3_leastPartThatFails_44 (by decide) ?_
              exact at_sub [1, 2, 3, 0] rfl (ih10 (y3_10 + (1 : Int32)) s10 (mz_up hm10 (ac_ti1 f710 (iv_c (c := 1) (x := (1 : Int32)) (by decide)) (by decide) (by decide) (by decide)) (by decide) (iv_wk (iv_add f710 (iv_c (c := 1) (x := (1 : Int32)) (by decide)) (by decide) (by decide)) (by decide) (by decide) : iv 1 1024 (y3_10 + (1 : Int32))).2) (show iv 1 10 y2_2 from b2_10) (iv_wk (iv_add f710 (iv_c (c := 1) (x := (1 : Int32)) (by decide)) (by decide) (by decide)) (by decide) (by decide) : iv 1 1024 (y3_10 + (1 : Int32))) hG_10)
            · have f714 : iv 0 0 (y3_10 &&& (x1 ^^^ (-1 : Int32))) := (iv_eql (iv_c (c := 0) (x := (0 : Int32)) (by decide)) c712)
              refine at_iload_n C 3 dX3_leastPartThatFails_23 rfl ?_
              refine at_Si C (As := [.int y3_10]) (st := []) (ct_J6_bitCount_0f7a4 s10 y3_10) mb_J6_bitCount_0f7a4 ml_X3_52 rfl (by decide) rfl (Nat.le_of_ble_eq_true rfl) dX3_leastPartThatFails_24 ?_
              rintro r715 _ ⟨rfl, f716, mo717⟩
              refine at_iload_n C 2 dX3_leastPartThatFails_27 rfl ?_
              refine at_icmp_ne C 41 dX3_leastPartThatFails_28 (by decide) (fun c718 => ?_) (fun c718 => ?_)
              · refine at_iinc C (v := (y3_10 + (1 : Int32))) (lv' := [(3, .int (y3_10 + (1 : Int32))), (0, .ref (e_q E 3)), (1, .int x1), (2, .int y2_2)]) 3 dX3_leastPartThatFails_41 rfl rfl hn3 rfl ?_
                refine at_goto C 10 dX3_leastPartThatFails_44 (by decide) ?_
                exact at_sub [1, 2, 3, 0] rfl (ih10 (y3_10 + (1 : Int32)) s10 (mz_up hm10 (ac_ti1 f710 (iv_c (c := 1) (x := (1 : Int32)) (by decide)) (by decide) (by decide) (by decide)) (by decide) (iv_wk (iv_add f710 (iv_c (c := 1) (x := (1 : Int32)) (by decide)) (by decide) (by decide)) (by decide) (by decide) : iv 1 1024 (y3_10 + (1 : Int32))).2) (show iv 1 10 y2_2 from b2_10) (iv_wk (iv_add f710 (iv_c (c := 1) (x := (1 : Int32)) (by decide)) (by decide) (by decide)) (by decide) (by decide) : iv 1 1024 (y3_10 + (1 : Int32))) hG_10)
              · have f719 : iv 1 10 r715 := (iv_eql b2_10 c718)
                refine at_aload_n C 0 dX3_leastPartThatFails_31 rfl ?_
                refine at_iload_n C 3 dX3_leastPartThatFails_32 rfl ?_
                refine at_Vi C (As := [.int y3_10]) (st := []) (b := 3) (ci := 3) (ct_X3_canPack s10 y3_10 hG_10.1) mb_X3_canPack ml_X3_37 rfl rfl rfl (by decide) rfl (Nat.le_of_ble_eq_true rfl) dX3_leastPartThatFails_33 ?_
                rintro _ u722 ⟨hg721, rfl | rfl⟩
                · have hG724 := hG_10.tr hg721
                  refine at_if_ne C 41 dX3_leastPartThatFails_36 (by decide) (fun c725 => absurd (iv_xne (iv_c (c := 0) (x := (0 : Int32)) (by decide)) (iv_c (c := 0) (x := (0 : Int32)) (by decide))) c725) (fun c725 => ?_)
                  refine at_iload_n C 3 dX3_leastPartThatFails_39 rfl ?_
                  exact hR _ _ _ _ dX3_leastPartThatFails_40 ⟨hG724, (iv_wk f710 (by decide) (by decide) : iv (-2147483648) 2147483647 y3_10)⟩
                · have hG726 := hG_10.tr hg721
                  refine at_if_ne C 41 dX3_leastPartThatFails_36 (by decide) (fun c727 => ?_) (fun c727 => absurd c727 (iv_xeq (iv_c (c := 1) (x := (1 : Int32)) (by decide)) (iv_c (c := 0) (x := (0 : Int32)) (by decide)) (by decide)))
                  refine at_iinc C (v := (y3_10 + (1 : Int32))) (lv' := [(3, .int (y3_10 + (1 : Int32))), (0, .ref (e_q E 3)), (1, .int x1), (2, .int y2_2)]) 3 dX3_leastPartThatFails_41 rfl rfl hn3 rfl ?_
                  refine at_goto C 10 dX3_leastPartThatFails_44 (by decide) ?_
                  exact at_sub [1, 2, 3, 0] rfl (ih10 (y3_10 + (1 : Int32)) u722 (mz_up hm10 (ac_ti1 f710 (iv_c (c := 1) (x := (1 : Int32)) (by decide)) (by decide) (by decide) (by decide)) (by decide) (iv_wk (iv_add f710 (iv_c (c := 1) (x := (1 : Int32)) (by decide)) (by decide) (by decide)) (by decide) (by decide) : iv 1 1024 (y3_10 + (1 : Int32))).2) (show iv 1 10 y2_2 from b2_10) (iv_wk (iv_add f710 (iv_c (c := 1) (x := (1 : Int32)) (by decide)) (by decide) (by decide)) (by decide) (by decide) : iv 1 1024 (y3_10 + (1 : Int32))) hG726)
      refine at_iload_n C 2 dX3_leastPartThatFails_2 rfl ?_
      refine at_bipush C (10 : Int32) dX3_leastPartThatFails_3 (by decide) ?_
      refine at_icmp_gt C 53 dX3_leastPartThatFails_5 (by decide) (fun c728 => ?_) (fun c728 => ?_)
      · have f729 : iv 11 11 y2_2 := (iv_ltr (iv_c (c := 10) (x := (10 : Int32)) (by decide)) b2_2 c728)
        refine at_bipush C (-3 : Int32) dX3_leastPartThatFails_53 (by decide) ?_
        exact hR _ _ _ _ dX3_leastPartThatFails_55 ⟨hG_2, (iv_wk (iv_c (c := (-3)) (x := (-3 : Int32)) (by decide)) (by decide) (by decide) : iv (-2147483648) 2147483647 (-3 : Int32))⟩
      · have f730 : iv 1 10 y2_2 := (iv_lel b2_2 (iv_c (c := 10) (x := (10 : Int32)) (by decide)) (Int32.not_lt.mp c728))
        refine at_iconst C (1 : Int32) dX3_leastPartThatFails_8 (by decide) ?_
        refine at_istore_n C (lv' := [(3, .int (1 : Int32)), (0, .ref (e_q E 3)), (1, .int x1), (2, .int y2_2)]) dX3_leastPartThatFails_9 hn3 rfl ?_
        exact at_sub [1, 2, 3, 0] rfl (K10 _ (1 : Int32) s2 (Nat.lt_succ_self _) (show iv 1 10 y2_2 from f730) (iv_wk (iv_c (c := 1) (x := (1 : Int32)) (by decide)) (by decide) (by decide) : iv 1 1024 (1 : Int32)) hG_2)
  refine at_iconst C (1 : Int32) dX3_leastPartThatFails_0 (by decide) ?_
  refine at_istore_n C (lv' := [(2, .int (1 : Int32)), (0, .ref (e_q E 3)), (1, .int x1)]) dX3_leastPartThatFails_1 hn2 rfl ?_
  exact at_sub [1, 2, 0] rfl (K2 _ (1 : Int32) σ (Nat.lt_succ_self _) (iv_wk (iv_c (c := 1) (x := (1 : Int32)) (by decide)) (by decide) (by decide) : iv 1 11 (1 : Int32)) hG0)
set_option maxHeartbeats 4000000 in
set_option maxRecDepth 100000 in
theorem ct_X3_couldJoin (σ : SS) (x1 : Int32) (hI : Inv σ) : ConI yX3_couldJoin cX3_couldJoin 4 (some .int) 16 (some 3) [.int x1] σ (fun r σ' => Gd σ σ' ∧ iv (-2147483648) 2147483647 r) := by
  refine conI_of (by decide) (fun q => Nat.le_of_ble_eq_true rfl) (fun E C en hR => ?_)
  have hn2 : 2 < e_n E := by rw [en]; decide
  have hn3 : 3 < e_n E := by rw [en]; decide
  have hG0 : Gd σ σ := Gd.rf hI
  have K4 : ∀ (n4 : Nat) (y2_4 : Int32) (y3_4 : Int32) (s4 : SS), (10 - (y3_4).toInt).toNat < n4 → iv 0 1023 y2_4 → iv 0 10 y3_4 → Gd σ s4 → AT E 4 [(0, .ref (e_q E 3)), (1, .int x1), (2, .int y2_4), (3, .int y3_4)] [] s4 := by
    intro n4
    induction n4 with
    | zero => intro y2_4 y3_4 s4 hm; exact absurd hm (Nat.not_lt_zero _)
    | succ n4 ih4 =>
      intro y2_4 y3_4 s4 hm4 b2_4 b3_4 hG_4
      refine at_iload_n C 3 dX3_couldJoin_4 rfl ?_
      refine at_aload_n C 0 dX3_couldJoin_5 rfl ?_
      refine gf_X3_21 C dX3_couldJoin_6 ?_
      refine gf_X3_57 C dX3_couldJoin_9 ?_
      refine at_icmp_ge C 47 dX3_couldJoin_12 (by decide) (fun c226 => ?_) (fun c226 => ?_)
      · refine at_iload_n C 2 dX3_couldJoin_47 rfl ?_
        exact hR _ _ _ _ dX3_couldJoin_48 ⟨hG_4, (iv_wk b2_4 (by decide) (by decide) : iv (-2147483648) 2147483647 y2_4)⟩
      · have f227 : iv 0 9 y3_4 := (iv_ltl b3_4 (show iv 0 10 (ac_gi s4 0) from hG_4.1.1 0) (Int32.not_le.mp c226))
        have f228 : iv 1 10 (ac_gi s4 0) := (iv_ltr b3_4 (show iv 0 10 (ac_gi s4 0) from hG_4.1.1 0) (Int32.not_le.mp c226))
        refine at_iload_n C 1 dX3_couldJoin_15 rfl ?_
        refine at_iload_n C 3 dX3_couldJoin_16 rfl ?_
        refine at_Ni C (As := [.int x1, .int y3_4]) (st := []) (ct_X6_has s4 x1 y3_4) mb_X6_has ml_X3_40 rfl (by decide) rfl (Nat.le_of_ble_eq_true rfl) dX3_couldJoin_17 ?_
        rintro _ _ ⟨rfl, ⟨rfl, c229⟩ | ⟨rfl, c229⟩⟩
        · refine at_if_ne C 41 dX3_couldJoin_20 (by decide) (fun c231 => ?_) (fun c231 => absurd c231 (iv_xeq (iv_c (c := 1) (x := (1 : Int32)) (by decide)) (iv_c (c := 0) (x := (0 : Int32)) (by decide)) (by decide)))
          refine at_iinc C (v := (y3_4 + (1 : Int32))) (lv' := [(3, .int (y3_4 + (1 : Int32))), (0, .ref (e_q E 3)), (1, .int x1), (2, .int y2_4)]) 3 dX3_couldJoin_41 rfl rfl hn3 rfl ?_
          refine at_goto C 4 dX3_couldJoin_44 (by decide) ?_
          exact at_sub [1, 2, 3, 0] rfl (ih4 y2_4 (y3_4 + (1 : Int32)) s4 (mz_up hm4 (ac_ti1 f227 (iv_c (c := 1) (x := (1 : Int32)) (by decide)) (by decide) (by decide) (by decide)) (by decide) (iv_wk (iv_add f227 (iv_c (c := 1) (x := (1 : Int32)) (by decide)) (by decide) (by decide)) (by decide) (by decide) : iv 0 10 (y3_4 + (1 : Int32))).2) (show iv 0 1023 y2_4 from b2_4) (iv_wk (iv_add f227 (iv_c (c := 1) (x := (1 : Int32)) (by decide)) (by decide) (by decide)) (by decide) (by decide) : iv 0 10 (y3_4 + (1 : Int32))) hG_4)
        · refine at_if_ne C 41 dX3_couldJoin_20 (by decide) (fun c232 => absurd (iv_xne (iv_c (c := 0) (x := (0 : Int32)) (by decide)) (iv_c (c := 0) (x := (0 : Int32)) (by decide))) c232) (fun c232 => ?_)
          refine at_aload_n C 0 dX3_couldJoin_23 rfl ?_
          refine at_iload_n C 1 dX3_couldJoin_24 rfl ?_
          refine at_iconst C (1 : Int32) dX3_couldJoin_25 (by decide) ?_
          refine at_iload_n C 3 dX3_couldJoin_26 rfl ?_
          refine at_ishl C dX3_couldJoin_27 ?_
          refine at_ior C dX3_couldJoin_28 ?_
          refine at_Vi C (As := [.int (x1 ||| ((1 : Int32) <<< (y3_4 &&& 31)))]) (st := []) (b := 3) (ci := 3) (ct_X3_canPack s4 (x1 ||| ((1 : Int32) <<< (y3_4 &&& 31))) hG_4.1) mb_X3_canPack ml_X3_37 rfl rfl rfl (by decide) rfl (Nat.le_of_ble_eq_true rfl) dX3_couldJoin_29 ?_
          rintro _ u235 ⟨hg234, rfl | rfl⟩
          · have hG237 := hG_4.tr hg234
            refine at_if_eq C 41 dX3_couldJoin_32 (by decide) (fun c238 => ?_) (fun c238 => absurd (iv_xne (iv_c (c := 0) (x := (0 : Int32)) (by decide)) (iv_c (c := 0) (x := (0 : Int32)) (by decide))) c238)
            refine at_iinc C (v := (y3_4 + (1 : Int32))) (lv' := [(3, .int (y3_4 + (1 : Int32))), (0, .ref (e_q E 3)), (1, .int x1), (2, .int y2_4)]) 3 dX3_couldJoin_41 rfl rfl hn3 rfl ?_
            refine at_goto C 4 dX3_couldJoin_44 (by decide) ?_
            exact at_sub [1, 2, 3, 0] rfl (ih4 y2_4 (y3_4 + (1 : Int32)) u235 (mz_up hm4 (ac_ti1 f227 (iv_c (c := 1) (x := (1 : Int32)) (by decide)) (by decide) (by decide) (by decide)) (by decide) (iv_wk (iv_add f227 (iv_c (c := 1) (x := (1 : Int32)) (by decide)) (by decide) (by decide)) (by decide) (by decide) : iv 0 10 (y3_4 + (1 : Int32))).2) (show iv 0 1023 y2_4 from b2_4) (iv_wk (iv_add f227 (iv_c (c := 1) (x := (1 : Int32)) (by decide)) (by decide) (by decide)) (by decide) (by decide) : iv 0 10 (y3_4 + (1 : Int32))) hG237)
          · have hG239 := hG_4.tr hg234
            refine at_if_eq C 41 dX3_couldJoin_32 (by decide) (fun c240 => absurd c240 (iv_xeq (iv_c (c := 1) (x := (1 : Int32)) (by decide)) (iv_c (c := 0) (x := (0 : Int32)) (by decide)) (by decide))) (fun c240 => ?_)
            refine at_iload_n C 2 dX3_couldJoin_35 rfl ?_
            refine at_iconst C (1 : Int32) dX3_couldJoin_36 (by decide) ?_
            refine at_iload_n C 3 dX3_couldJoin_37 rfl ?_
            refine at_ishl C dX3_couldJoin_38 ?_
            refine at_ior C dX3_couldJoin_39 ?_
            refine at_istore_n C (lv' := [(2, .int (y2_4 ||| ((1 : Int32) <<< (y3_4 &&& 31)))), (0, .ref (e_q E 3)), (1, .int x1), (3, .int y3_4)]) dX3_couldJoin_40 hn2 rfl ?_
            refine at_iinc C (v := (y3_4 + (1 : Int32))) (lv' := [(3, .int (y3_4 + (1 : Int32))), (2, .int (y2_4 ||| ((1 : Int32) <<< (y3_4 &&& 31)))), (0, .ref (e_q E 3)), (1, .int x1)]) 3 dX3_couldJoin_41 rfl rfl hn3 rfl ?_
            refine at_goto C 4 dX3_couldJoin_44 (by decide) ?_
            exact at_sub [2, 3, 1, 0] rfl (ih4 (y2_4 ||| ((1 : Int32) <<< (y3_4 &&& 31))) (y3_4 + (1 : Int32)) u235 (mz_up hm4 (ac_ti1 f227 (iv_c (c := 1) (x := (1 : Int32)) (by decide)) (by decide) (by decide) (by decide)) (by decide) (iv_wk (iv_add f227 (iv_c (c := 1) (x := (1 : Int32)) (by decide)) (by decide) (by decide)) (by decide) (by decide) : iv 0 10 (y3_4 + (1 : Int32))).2) (show iv 0 1023 (y2_4 ||| ((1 : Int32) <<< (y3_4 &&& 31))) from (iv_or 10 b2_4 (iv_wk (c := 0) (iv_shl1 (a := 0) (b := 9) f227 (by decide)) (by decide) (Int.le_refl _)) (by decide) (by decide) (by decide))) (iv_wk (iv_add f227 (iv_c (c := 1) (x := (1 : Int32)) (by decide)) (by decide) (by decide)) (by decide) (by decide) : iv 0 10 (y3_4 + (1 : Int32))) hG239)
  refine at_iconst C (0 : Int32) dX3_couldJoin_0 (by decide) ?_
  refine at_istore_n C (lv' := [(2, .int (0 : Int32)), (0, .ref (e_q E 3)), (1, .int x1)]) dX3_couldJoin_1 hn2 rfl ?_
  refine at_iconst C (0 : Int32) dX3_couldJoin_2 (by decide) ?_
  refine at_istore_n C (lv' := [(3, .int (0 : Int32)), (2, .int (0 : Int32)), (0, .ref (e_q E 3)), (1, .int x1)]) dX3_couldJoin_3 hn3 rfl ?_
  exact at_sub [2, 3, 1, 0] rfl (K4 _ (0 : Int32) (0 : Int32) σ (Nat.lt_succ_self _) (iv_wk (iv_c (c := 0) (x := (0 : Int32)) (by decide)) (by decide) (by decide) : iv 0 1023 (0 : Int32)) (iv_wk (iv_c (c := 0) (x := (0 : Int32)) (by decide)) (by decide) (by decide) : iv 0 10 (0 : Int32)) hG0)
