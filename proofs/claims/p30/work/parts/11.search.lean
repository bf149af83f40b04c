set_option maxHeartbeats 4000000 in
set_option maxRecDepth 100000 in
theorem cr_X4_goOn (d : Nat) : ∀ (σ : SS) (x1 : Int32), Inv σ → iv 0 10 x1 → (10 - (x1).toInt).toNat < d → ConI yX4_goOn cX4_goOn 5 (some .int) (1 + d) (some 2) [.int x1] σ (fun r σ' => Gd σ σ' ∧ iv (-5) 1 r) := by
  induction d with
  | zero => intro σ x1 hI g1 hmr; exact absurd hmr (Nat.not_lt_zero _)
  | succ d ihr =>
    intro σ x1 hI g1 hmr
    refine conI_of (by decide) (fun q => Nat.le_of_ble_eq_true rfl) (fun E C en hR => ?_)
    have hn2 : 2 < e_n E := by rw [en]; decide
    have hn3 : 3 < e_n E := by rw [en]; decide
    have hn4 : 4 < e_n E := by rw [en]; decide
    have hG0 : Gd σ σ := Gd.rf hI
    have K68 : ∀ (n68 : Nat) (y2_68 : Int32) (y3_68 : Int32) (s68 : SS), (6 - (y3_68).toInt).toNat < n68 → iv 0 9 x1 → iv (-2147483648) 2147483647 y2_68 → iv 0 6 y3_68 → Gd σ s68 → AT E 68 [(0, .ref (e_q E 2)), (1, .int x1), (2, .int y2_68), (3, .int y3_68)] [] s68 := by
      intro n68
      induction n68 with
      | zero => intro y2_68 y3_68 s68 hm; exact absurd hm (Nat.not_lt_zero _)
      | succ n68 ih68 =>
        intro y2_68 y3_68 s68 hm68 b1_68 b2_68 b3_68 hG_68
        refine at_iload_n C 3 dX4_goOn_68 rfl ?_
        refine at_aload_n C 0 dX4_goOn_69 rfl ?_
        refine gf_X4_31 C dX4_goOn_70 ?_
        refine gf_X4_65 C dX4_goOn_73 ?_
        refine at_icmp_ge C 144 dX4_goOn_76 (by decide) (fun c419 => ?_) (fun c419 => ?_)
        · have f420 : iv 1 6 y3_68 := (iv_ler (show iv 1 6 (ac_gi s68 1) from hG_68.1.1 1) b3_68 c419)
          refine at_iconst C (0 : Int32) dX4_goOn_144 (by decide) ?_
          exact hR _ _ _ _ dX4_goOn_145 ⟨hG_68, (iv_wk (iv_c (c := 0) (x := (0 : Int32)) (by decide)) (by decide) (by decide) : iv (-5) 1 (0 : Int32))⟩
        · have f421 : iv 0 5 y3_68 := (iv_ltl b3_68 (show iv 1 6 (ac_gi s68 1) from hG_68.1.1 1) (Int32.not_le.mp c419))
          refine at_aload_n C 0 dX4_goOn_79 rfl ?_
          refine gf_X4_9 C dX4_goOn_80 ?_
          refine at_aload_n C 0 dX4_goOn_83 rfl ?_
          refine gf_X4_31 C dX4_goOn_84 ?_
          refine gf_X4_68 C dX4_goOn_87 ?_
          refine at_icmp_lt C 96 dX4_goOn_90 (by decide) (fun c422 => ?_) (fun c422 => ?_)
          · have f423 : iv (-2147483648) 1999 (ac_gi s68 10) := (iv_ltl (iv_any (ac_gi s68 10)) (show iv 1 2000 (ac_gi s68 2) from hG_68.1.1 2) c422)
            refine at_aload_n C 0 dX4_goOn_96 rfl ?_
            refine at_dup C dX4_goOn_97 rfl ?_
            refine gf_X4_9 C dX4_goOn_98 ?_
            refine at_iconst C (1 : Int32) dX4_goOn_101 (by decide) ?_
            refine at_iadd C dX4_goOn_102 ?_
            refine pf_X4_9 C dX4_goOn_103 ?_
            have hG424 := Gd.si (k := 10) hG_68 rfl (iv_wk (iv_add f423 (iv_c (c := 1) (x := (1 : Int32)) (by decide)) (by decide) (by decide)) (by decide) (by decide) : iv (-2147483648) 2147483647 ((ac_gi s68 10) + (1 : Int32)))
            refine at_iload_n C 2 dX4_goOn_106 rfl ?_
            refine at_iload_n C 3 dX4_goOn_107 rfl ?_
            refine at_Ni C (As := [.int y2_68, .int y3_68]) (st := []) (ct_X6_has (ac_si s68 10 ((ac_gi s68 10) + (1 : Int32))) y2_68 y3_68) mb_X6_has ml_X4_40 rfl (by omega) rfl (Nat.le_of_ble_eq_true rfl) dX4_goOn_108 ?_
            rintro _ _ ⟨rfl, ⟨rfl, c425⟩ | ⟨rfl, c425⟩⟩
            · refine at_if_eq C 138 dX4_goOn_111 (by decide) (fun c427 => absurd c427 (iv_xeq (iv_c (c := 1) (x := (1 : Int32)) (by decide)) (iv_c (c := 0) (x := (0 : Int32)) (by decide)) (by decide))) (fun c427 => ?_)
              refine at_aload_n C 0 dX4_goOn_114 rfl ?_
              refine gf_X4_25 C dX4_goOn_115 ?_
              refine at_iload_n C 1 dX4_goOn_118 rfl ?_
              refine at_iload_n C 3 dX4_goOn_119 rfl ?_
              refine at_iast C (c := 12) rfl (fun f => ac_ast_12 _ _ _ _ f) (iv_in (n := 10) b1_68 (by decide) (by decide)) dX4_goOn_120 ?_
              have hG428 := Gd.sa (c := 12) (i := (x1).toNatClampNeg) hG424 rfl (iv_wk f421 (by decide) (by decide) : iv (-2147483648) 2147483647 y3_68)
              refine at_aload_n C 0 dX4_goOn_121 rfl ?_
              refine at_iload_n C 1 dX4_goOn_122 rfl ?_
              refine at_iconst C (1 : Int32) dX4_goOn_123 (by decide) ?_
              refine at_iadd C dX4_goOn_124 ?_
              refine at_Vi C (As := [.int (x1 + (1 : Int32))]) (st := []) (b := 2) (ci := 4) (ihr (ac_sa (ac_si s68 10 ((ac_gi s68 10) + (1 : Int32))) 12 (upd (ac_ga (ac_si s68 10 ((ac_gi s68 10) + (1 : Int32))) 12) (x1).toNatClampNeg y3_68)) (x1 + (1 : Int32)) hG428.1 (iv_wk (iv_add b1_68 (iv_c (c := 1) (x := (1 : Int32)) (by decide)) (by decide) (by decide)) (by decide) (by decide) : iv 0 10 (x1 + (1 : Int32))) (mz_up hmr (ac_ti1 b1_68 (iv_c (c := 1) (x := (1 : Int32)) (by decide)) (by decide) (by decide) (by decide)) (by decide) (iv_wk (iv_add b1_68 (iv_c (c := 1) (x := (1 : Int32)) (by decide)) (by decide) (by decide)) (by decide) (by decide) : iv (-2147483648) 10 (x1 + (1 : Int32))).2)) mb_X4_goOn ml_X4_48 rfl rfl rfl (Nat.lt_succ_self _) rfl (Nat.le_of_ble_eq_true rfl) dX4_goOn_125 ?_
              rintro r429 u431 ⟨hg432, f430⟩
              have hG433 := hG428.tr hg432
              refine at_istore C (lv' := [(4, .int r429), (0, .ref (e_q E 2)), (1, .int x1), (2, .int y2_68), (3, .int y3_68)]) dX4_goOn_128 hn4 rfl ?_
              refine at_iload C 0 dX4_goOn_130 rfl ?_
              refine at_if_eq C 138 dX4_goOn_132 (by decide) (fun c434 => ?_) (fun c434 => ?_)
              · have f435 : iv 0 0 r429 := (iv_eql (iv_c (c := 0) (x := (0 : Int32)) (by decide)) c434)
                refine at_iinc C (v := (y3_68 + (1 : Int32))) (lv' := [(3, .int (y3_68 + (1 : Int32))), (4, .int r429), (0, .ref (e_q E 2)), (1, .int x1), (2, .int y2_68)]) 4 dX4_goOn_138 rfl rfl hn3 rfl ?_
                refine at_goto C 68 dX4_goOn_141 (by decide) ?_
                exact at_sub [2, 3, 4, 0] rfl (ih68 y2_68 (y3_68 + (1 : Int32)) u431 (mz_up hm68 (ac_ti1 f421 (iv_c (c := 1) (x := (1 : Int32)) (by decide)) (by decide) (by decide) (by decide)) (by decide) (iv_wk (iv_add f421 (iv_c (c := 1) (x := (1 : Int32)) (by decide)) (by decide) (by decide)) (by decide) (by decide) : iv 0 6 (y3_68 + (1 : Int32))).2) (show iv 0 9 x1 from b1_68) (show iv (-2147483648) 2147483647 y2_68 from b2_68) (iv_wk (iv_add f421 (iv_c (c := 1) (x := (1 : Int32)) (by decide)) (by decide) (by decide)) (by decide) (by decide) : iv 0 6 (y3_68 + (1 : Int32))) hG433)
              · refine at_iload C 0 dX4_goOn_135 rfl ?_
                exact hR _ _ _ _ dX4_goOn_137 ⟨hG433, (show iv (-5) 1 r429 from f430)⟩
            · refine at_if_eq C 138 dX4_goOn_111 (by decide) (fun c436 => ?_) (fun c436 => absurd (iv_xne (iv_c (c := 0) (x := (0 : Int32)) (by decide)) (iv_c (c := 0) (x := (0 : Int32)) (by decide))) c436)
              refine at_iinc C (v := (y3_68 + (1 : Int32))) (lv' := [(3, .int (y3_68 + (1 : Int32))), (0, .ref (e_q E 2)), (1, .int x1), (2, .int y2_68)]) 3 dX4_goOn_138 rfl rfl hn3 rfl ?_
              refine at_goto C 68 dX4_goOn_141 (by decide) ?_
              exact at_sub [1, 2, 3, 0] rfl (ih68 y2_68 (y3_68 + (1 : Int32)) (ac_si s68 10 ((ac_gi s68 10) + (1 : Int32))) (mz_up hm68 (ac_ti1 f421 (iv_c (c := 1) (x := (1 : Int32)) (by decide)) (by decide) (by decide) (by decide)) (by decide) (iv_wk (iv_add f421 (iv_c (c := 1) (x := (1 : Int32)) (by decide)) (by decide) (by decide)) (by decide) (by decide) : iv 0 6 (y3_68 + (1 : Int32))).2) (show iv 0 9 x1 from b1_68) (show iv (-2147483648) 2147483647 y2_68 from b2_68) (iv_wk (iv_add f421 (iv_c (c := 1) (x := (1 : Int32)) (by decide)) (by decide) (by decide)) (by decide) (by decide) : iv 0 6 (y3_68 + (1 : Int32))) hG424)
          · have f437 : iv 1 2147483647 (ac_gi s68 10) := (iv_ler (show iv 1 2000 (ac_gi s68 2) from hG_68.1.1 2) (iv_any (ac_gi s68 10)) (Int32.not_lt.mp c422))
            refine at_bipush C (-5 : Int32) dX4_goOn_93 (by decide) ?_
            exact hR _ _ _ _ dX4_goOn_95 ⟨hG_68, (iv_wk (iv_c (c := (-5)) (x := (-5 : Int32)) (by decide)) (by decide) (by decide) : iv (-5) 1 (-5 : Int32))⟩
    have K25 : ∀ (n25 : Nat) (y2_25 : Int32) (y3_25 : Int32), (9 - (y3_25).toInt).toNat < n25 → iv 0 9 x1 → iv (-2147483648) 2147483647 y2_25 → iv 0 9 y3_25 → AT E 25 [(0, .ref (e_q E 2)), (1, .int x1), (2, .int y2_25), (3, .int y3_25)] [] σ := by
      intro n25
      induction n25 with
      | zero => intro y2_25 y3_25 hm; exact absurd hm (Nat.not_lt_zero _)
      | succ n25 ih25 =>
        intro y2_25 y3_25 hm25 b1_25 b2_25 b3_25
        refine at_iload_n C 3 dX4_goOn_25 rfl ?_
        refine at_iload_n C 1 dX4_goOn_26 rfl ?_
        refine at_icmp_ge C 66 dX4_goOn_27 (by decide) (fun c438 => ?_) (fun c438 => ?_)
        · refine at_iconst C (0 : Int32) dX4_goOn_66 (by decide) ?_
          refine at_istore_n C (lv' := [(3, .int (0 : Int32)), (0, .ref (e_q E 2)), (1, .int x1), (2, .int y2_25)]) dX4_goOn_67 hn3 rfl ?_
          exact at_sub [1, 2, 3, 0] rfl (K68 _ y2_25 (0 : Int32) σ (Nat.lt_succ_self _) (show iv 0 9 x1 from b1_25) (show iv (-2147483648) 2147483647 y2_25 from b2_25) (iv_wk (iv_c (c := 0) (x := (0 : Int32)) (by decide)) (by decide) (by decide) : iv 0 6 (0 : Int32)) hG0)
        · have f439 : iv 0 8 y3_25 := (iv_ltl b3_25 b1_25 (Int32.not_le.mp c438))
          have f440 : iv 1 9 x1 := (iv_ltr b3_25 b1_25 (Int32.not_le.mp c438))
          refine at_iload_n C 2 dX4_goOn_30 rfl ?_
          refine at_aload_n C 0 dX4_goOn_31 rfl ?_
          refine gf_X4_31 C dX4_goOn_32 ?_
          refine at_aload_n C 0 dX4_goOn_35 rfl ?_
          refine gf_X4_18 C dX4_goOn_36 ?_
          refine at_iload_n C 1 dX4_goOn_39 rfl ?_
          refine at_iald C (c := 10) rfl (iv_in (n := 10) f440 (by decide) (by decide)) dX4_goOn_40 ?_
          refine at_aload_n C 0 dX4_goOn_41 rfl ?_
          refine gf_X4_18 C dX4_goOn_42 ?_
          refine at_iload_n C 3 dX4_goOn_45 rfl ?_
          refine at_iald C (c := 10) rfl (iv_in (n := 10) f439 (by decide) (by decide)) dX4_goOn_46 ?_
          refine at_aload_n C 0 dX4_goOn_47 rfl ?_
          refine gf_X4_25 C dX4_goOn_48 ?_
          refine at_iload_n C 3 dX4_goOn_51 rfl ?_
          refine at_iald C (c := 12) rfl (iv_in (n := 10) f439 (by decide) (by decide)) dX4_goOn_52 ?_
          refine at_Vi C (As := [.int (ac_ga σ 10 (x1).toNatClampNeg), .int (ac_ga σ 10 (y3_25).toNatClampNeg), .int (ac_ga σ 12 (y3_25).toNatClampNeg)]) (st := [.int y2_25]) (b := 1) (ci := 0) (ct_X0_shutFor σ (ac_ga σ 10 (x1).toNatClampNeg) (ac_ga σ 10 (y3_25).toNatClampNeg) (ac_ga σ 12 (y3_25).toNatClampNeg) hI) mb_X0_shutFor ml_X4_61 rfl rfl rfl (by omega) rfl (Nat.le_of_ble_eq_true rfl) dX4_goOn_53 ?_
          rintro r441 _ ⟨rfl, f442⟩
          refine at_iconst C (-1 : Int32) dX4_goOn_56 (by decide) ?_
          refine at_ixor C dX4_goOn_57 ?_
          refine at_iand C dX4_goOn_58 ?_
          refine at_istore_n C (lv' := [(2, .int (y2_25 &&& (r441 ^^^ (-1 : Int32)))), (0, .ref (e_q E 2)), (1, .int x1), (3, .int y3_25)]) dX4_goOn_59 hn2 rfl ?_
          refine at_iinc C (v := (y3_25 + (1 : Int32))) (lv' := [(3, .int (y3_25 + (1 : Int32))), (2, .int (y2_25 &&& (r441 ^^^ (-1 : Int32)))), (0, .ref (e_q E 2)), (1, .int x1)]) 3 dX4_goOn_60 rfl rfl hn3 rfl ?_
          refine at_goto C 25 dX4_goOn_63 (by decide) ?_
          exact at_sub [2, 3, 1, 0] rfl (ih25 (y2_25 &&& (r441 ^^^ (-1 : Int32))) (y3_25 + (1 : Int32)) (mz_up hm25 (ac_ti1 f439 (iv_c (c := 1) (x := (1 : Int32)) (by decide)) (by decide) (by decide) (by decide)) (by decide) (iv_wk (iv_add f439 (iv_c (c := 1) (x := (1 : Int32)) (by decide)) (by decide) (by decide)) (by decide) (by decide) : iv 0 9 (y3_25 + (1 : Int32))).2) (iv_wk f440 (by decide) (by decide) : iv 0 9 x1) (show iv (-2147483648) 2147483647 (y2_25 &&& (r441 ^^^ (-1 : Int32))) from (iv_any (y2_25 &&& (r441 ^^^ (-1 : Int32))))) (iv_wk (iv_add f439 (iv_c (c := 1) (x := (1 : Int32)) (by decide)) (by decide) (by decide)) (by decide) (by decide) : iv 0 9 (y3_25 + (1 : Int32))))
    refine at_iload_n C 1 dX4_goOn_0 rfl ?_
    refine at_aload_n C 0 dX4_goOn_1 rfl ?_
    refine gf_X4_15 C dX4_goOn_2 ?_
    refine at_icmp_ge C 14 dX4_goOn_5 (by decide) (fun c443 => ?_) (fun c443 => ?_)
    · refine at_iconst C (1 : Int32) dX4_goOn_14 (by decide) ?_
      exact hR _ _ _ _ dX4_goOn_15 ⟨hG0, (iv_wk (iv_c (c := 1) (x := (1 : Int32)) (by decide)) (by decide) (by decide) : iv (-5) 1 (1 : Int32))⟩
    · have f444 : iv 0 9 x1 := (iv_ltl g1 (show iv 0 10 (ac_gi σ 11) from hI.1 11) (Int32.not_le.mp c443))
      have f445 : iv 1 10 (ac_gi σ 11) := (iv_ltr g1 (show iv 0 10 (ac_gi σ 11) from hI.1 11) (Int32.not_le.mp c443))
      refine at_iload_n C 1 dX4_goOn_8 rfl ?_
      refine at_bipush C (10 : Int32) dX4_goOn_9 (by decide) ?_
      refine at_icmp_lt C 16 dX4_goOn_11 (by decide) (fun c446 => ?_) (fun c446 => absurd (Int32.not_lt.mp c446) (iv_xle (iv_c (c := 10) (x := (10 : Int32)) (by decide)) f444 (by decide)))
      refine at_aload_n C 0 dX4_goOn_16 rfl ?_
      refine gf_X4_22 C dX4_goOn_17 ?_
      refine at_iload_n C 1 dX4_goOn_20 rfl ?_
      refine at_iald C (c := 11) rfl (iv_in (n := 10) f444 (by decide) (by decide)) dX4_goOn_21 ?_
      refine at_istore_n C (lv' := [(2, .int (ac_ga σ 11 (x1).toNatClampNeg)), (0, .ref (e_q E 2)), (1, .int x1)]) dX4_goOn_22 hn2 rfl ?_
      refine at_iconst C (0 : Int32) dX4_goOn_23 (by decide) ?_
      refine at_istore_n C (lv' := [(3, .int (0 : Int32)), (2, .int (ac_ga σ 11 (x1).toNatClampNeg)), (0, .ref (e_q E 2)), (1, .int x1)]) dX4_goOn_24 hn3 rfl ?_
      exact at_sub [2, 3, 1, 0] rfl (K25 _ (ac_ga σ 11 (x1).toNatClampNeg) (0 : Int32) (Nat.lt_succ_self _) (show iv 0 9 x1 from f444) (show iv (-2147483648) 2147483647 (ac_ga σ 11 (x1).toNatClampNeg) from (iv_any (ac_ga σ 11 (x1).toNatClampNeg))) (iv_wk (iv_c (c := 0) (x := (0 : Int32)) (by decide)) (by decide) (by decide) : iv 0 9 (0 : Int32)))
theorem ct_X4_goOn (σ : SS) (x1 : Int32) (hI : Inv σ) (g1 : iv 0 10 x1) : ConI yX4_goOn cX4_goOn 5 (some .int) 12 (some 2) [.int x1] σ (fun r σ' => Gd σ σ' ∧ iv (-5) 1 r) := cr_X4_goOn 11 σ x1 hI g1 (by have := g1.1; omega)
set_option maxHeartbeats 4000000 in
set_option maxRecDepth 100000 in
theorem ct_X4_lookFor (σ : SS) (x1 : Int32) (hI : Inv σ) : ConI yX4_lookFor cX4_lookFor 3 (some .int) 13 (some 2) [.int x1] σ (fun r σ' => Gd σ σ' ∧ iv (-2147483648) 2147483647 r) := by
  refine conI_of (by decide) (fun q => Nat.le_of_ble_eq_true rfl) (fun E C en hR => ?_)
  have hn2 : 2 < e_n E := by rw [en]; decide
  have hG0 : Gd σ σ := Gd.rf hI
  have K12 : ∀ (n12 : Nat) (y2_12 : Int32) (s12 : SS), (10 - (y2_12).toInt).toNat < n12 → iv 0 10 y2_12 → Gd σ s12 → (((ac_gi s12 11)).toInt ≤ (y2_12).toInt) → AT E 12 [(0, .ref (e_q E 2)), (1, .int x1), (2, .int y2_12)] [] s12 := by
    intro n12
    induction n12 with
    | zero => intro y2_12 s12 hm; exact absurd hm (Nat.not_lt_zero _)
    | succ n12 ih12 =>
      intro y2_12 s12 hm12 b2_12 hG_12 e0_12
      refine at_iload_n C 2 dX4_lookFor_12 rfl ?_
      refine at_aload_n C 0 dX4_lookFor_13 rfl ?_
      refine gf_X4_31 C dX4_lookFor_14 ?_
      refine gf_X4_35 C dX4_lookFor_17 ?_
      refine at_icmp_ge C 74 dX4_lookFor_20 (by decide) (fun c301 => ?_) (fun c301 => ?_)
      · refine at_aload_n C 0 dX4_lookFor_74 rfl ?_
        refine at_iconst C (0 : Int32) dX4_lookFor_75 (by decide) ?_
        refine at_Vi C (As := [.int (0 : Int32)]) (st := []) (b := 2) (ci := 4) (ct_X4_goOn s12 (0 : Int32) hG_12.1 (iv_wk (iv_c (c := 0) (x := (0 : Int32)) (by decide)) (by decide) (by decide) : iv 0 10 (0 : Int32))) mb_X4_goOn ml_X4_48 rfl rfl rfl (by decide) rfl (Nat.le_of_ble_eq_true rfl) dX4_lookFor_76 ?_
        rintro r302 u304 ⟨hg305, f303⟩
        have hG306 := hG_12.tr hg305
        exact hR _ _ _ _ dX4_lookFor_79 ⟨hG306, (iv_wk f303 (by decide) (by decide) : iv (-2147483648) 2147483647 r302)⟩
      · have f307 : iv 0 9 y2_12 := (iv_ltl b2_12 (show iv 0 10 (ac_gi s12 0) from hG_12.1.1 0) (Int32.not_le.mp c301))
        have f308 : iv 1 10 (ac_gi s12 0) := (iv_ltr b2_12 (show iv 0 10 (ac_gi s12 0) from hG_12.1.1 0) (Int32.not_le.mp c301))
        refine at_iload_n C 1 dX4_lookFor_23 rfl ?_
        refine at_iload_n C 2 dX4_lookFor_24 rfl ?_
        refine at_Ni C (As := [.int x1, .int y2_12]) (st := []) (ct_X6_has s12 x1 y2_12) mb_X6_has ml_X4_40 rfl (by decide) rfl (Nat.le_of_ble_eq_true rfl) dX4_lookFor_25 ?_
        rintro _ _ ⟨rfl, ⟨rfl, c309⟩ | ⟨rfl, c309⟩⟩
        · refine at_if_eq C 68 dX4_lookFor_28 (by decide) (fun c311 => absurd c311 (iv_xeq (iv_c (c := 1) (x := (1 : Int32)) (by decide)) (iv_c (c := 0) (x := (0 : Int32)) (by decide)) (by decide))) (fun c311 => ?_)
          have f312 : iv 0 9 (ac_gi s12 11) := ⟨(show iv 0 10 (ac_gi s12 11) from (show iv 0 10 (ac_gi s12 11) from hG_12.1.1 11)).1, by have q0 := e0_12; have q1 := (show iv 0 9 y2_12 from f307).2; omega⟩
          refine at_aload_n C 0 dX4_lookFor_31 rfl ?_
          refine gf_X4_18 C dX4_lookFor_32 ?_
          refine at_aload_n C 0 dX4_lookFor_35 rfl ?_
          refine gf_X4_15 C dX4_lookFor_36 ?_
          refine at_iload_n C 2 dX4_lookFor_39 rfl ?_
          refine at_iast C (c := 10) rfl (fun f => ac_ast_10 _ _ _ _ f) (iv_in (n := 10) f312 (by decide) (by decide)) dX4_lookFor_40 ?_
          have hG313 := Gd.sa (c := 10) (i := ((ac_gi s12 11)).toNatClampNeg) hG_12 rfl (show iv 0 9 y2_12 from f307)
          refine at_aload_n C 0 dX4_lookFor_41 rfl ?_
          refine gf_X4_22 C dX4_lookFor_42 ?_
          refine at_aload_n C 0 dX4_lookFor_45 rfl ?_
          refine gf_X4_15 C dX4_lookFor_46 ?_
          show AT E 49 [(0, .ref (e_q E 2)), (1, .int x1), (2, .int y2_12)] [.int (ac_gi s12 11), .ref (e_q E 11)] (ac_sa s12 10 (upd (ac_ga s12 10) ((ac_gi s12 11)).toNatClampNeg y2_12))
          refine at_aload_n C 0 dX4_lookFor_49 rfl ?_
          refine gf_X4_31 C dX4_lookFor_50 ?_
          refine at_iload_n C 2 dX4_lookFor_53 rfl ?_
          refine at_Vi C (As := [.int y2_12]) (st := [.int (ac_gi s12 11), .ref (e_q E 11)]) (b := 1) (ci := 0) (ct_X0_mayHave (ac_sa s12 10 (upd (ac_ga s12 10) ((ac_gi s12 11)).toNatClampNeg y2_12)) y2_12 hG313.1) mb_X0_mayHave ml_X4_44 rfl rfl rfl (by decide) rfl (Nat.le_of_ble_eq_true rfl) dX4_lookFor_54 ?_
          rintro r314 _ ⟨rfl, f315⟩
          refine at_iast C (c := 11) rfl (fun f => ac_ast_11 _ _ _ _ f) (iv_in (n := 10) f312 (by decide) (by decide)) dX4_lookFor_57 ?_
          have hG316 := Gd.sa (c := 11) (i := ((ac_gi s12 11)).toNatClampNeg) hG313 rfl (iv_wk f315 (by decide) (by decide) : iv (-2147483648) 2147483647 r314)
          refine at_aload_n C 0 dX4_lookFor_58 rfl ?_
          refine at_dup C dX4_lookFor_59 rfl ?_
          refine gf_X4_15 C dX4_lookFor_60 ?_
          show AT E 63 [(0, .ref (e_q E 2)), (1, .int x1), (2, .int y2_12)] [.int (ac_gi s12 11), .ref (e_q E 2)] (ac_sa (ac_sa s12 10 (upd (ac_ga s12 10) ((ac_gi s12 11)).toNatClampNeg y2_12)) 11 (upd (ac_ga (ac_sa s12 10 (upd (ac_ga s12 10) ((ac_gi s12 11)).toNatClampNeg y2_12)) 11) ((ac_gi s12 11)).toNatClampNeg r314))
          refine at_iconst C (1 : Int32) dX4_lookFor_63 (by decide) ?_
          refine at_iadd C dX4_lookFor_64 ?_
          refine pf_X4_15 C dX4_lookFor_65 ?_
          have hG317 := Gd.si (k := 11) hG316 rfl (iv_wk (iv_add f312 (iv_c (c := 1) (x := (1 : Int32)) (by decide)) (by decide) (by decide)) (by decide) (by decide) : iv 0 10 ((ac_gi s12 11) + (1 : Int32)))
          refine at_iinc C (v := (y2_12 + (1 : Int32))) (lv' := [(2, .int (y2_12 + (1 : Int32))), (0, .ref (e_q E 2)), (1, .int x1)]) 2 dX4_lookFor_68 rfl rfl hn2 rfl ?_
          refine at_goto C 12 dX4_lookFor_71 (by decide) ?_
          exact at_sub [1, 2, 0] rfl (ih12 (y2_12 + (1 : Int32)) (ac_si (ac_sa (ac_sa s12 10 (upd (ac_ga s12 10) ((ac_gi s12 11)).toNatClampNeg y2_12)) 11 (upd (ac_ga (ac_sa s12 10 (upd (ac_ga s12 10) ((ac_gi s12 11)).toNatClampNeg y2_12)) 11) ((ac_gi s12 11)).toNatClampNeg r314)) 11 ((ac_gi s12 11) + (1 : Int32))) (mz_up hm12 (ac_ti1 f307 (iv_c (c := 1) (x := (1 : Int32)) (by decide)) (by decide) (by decide) (by decide)) (by decide) (iv_wk (iv_add f307 (iv_c (c := 1) (x := (1 : Int32)) (by decide)) (by decide) (by decide)) (by decide) (by decide) : iv 0 10 (y2_12 + (1 : Int32))).2) (iv_wk (iv_add f307 (iv_c (c := 1) (x := (1 : Int32)) (by decide)) (by decide) (by decide)) (by decide) (by decide) : iv 0 10 (y2_12 + (1 : Int32))) hG317 (show (((ac_gi s12 11) + (1 : Int32))).toInt ≤ ((y2_12 + (1 : Int32))).toInt from by have q0 := e0_12; have q1 := ac_ti1 f312 (iv_c (c := 1) (x := (1 : Int32)) (by decide)) (by decide) (by decide) (by decide); have q2 := ac_ti1 f307 (iv_c (c := 1) (x := (1 : Int32)) (by decide)) (by decide) (by decide) (by decide); omega))
        · refine at_if_eq C 68 dX4_lookFor_28 (by decide) (fun c318 => ?_) (fun c318 => absurd (iv_xne (iv_c (c := 0) (x := (0 : Int32)) (by decide)) (iv_c (c := 0) (x := (0 : Int32)) (by decide))) c318)
          refine at_iinc C (v := (y2_12 + (1 : Int32))) (lv' := [(2, .int (y2_12 + (1 : Int32))), (0, .ref (e_q E 2)), (1, .int x1)]) 2 dX4_lookFor_68 rfl rfl hn2 rfl ?_
          refine at_goto C 12 dX4_lookFor_71 (by decide) ?_
          exact at_sub [1, 2, 0] rfl (ih12 (y2_12 + (1 : Int32)) s12 (mz_up hm12 (ac_ti1 f307 (iv_c (c := 1) (x := (1 : Int32)) (by decide)) (by decide) (by decide) (by decide)) (by decide) (iv_wk (iv_add f307 (iv_c (c := 1) (x := (1 : Int32)) (by decide)) (by decide) (by decide)) (by decide) (by decide) : iv 0 10 (y2_12 + (1 : Int32))).2) (iv_wk (iv_add f307 (iv_c (c := 1) (x := (1 : Int32)) (by decide)) (by decide) (by decide)) (by decide) (by decide) : iv 0 10 (y2_12 + (1 : Int32))) hG_12 (show ((ac_gi s12 11)).toInt ≤ ((y2_12 + (1 : Int32))).toInt from by have q0 := e0_12; have q2 := ac_ti1 f307 (iv_c (c := 1) (x := (1 : Int32)) (by decide)) (by decide) (by decide) (by decide); omega))
  refine at_aload_n C 0 dX4_lookFor_0 rfl ?_
  refine at_iconst C (0 : Int32) dX4_lookFor_1 (by decide) ?_
  refine pf_X4_15 C dX4_lookFor_2 ?_
  have hG319 := Gd.si (k := 11) hG0 rfl (iv_wk (iv_c (c := 0) (x := (0 : Int32)) (by decide)) (by decide) (by decide) : iv 0 10 (0 : Int32))
  refine at_aload_n C 0 dX4_lookFor_5 rfl ?_
  refine at_iconst C (0 : Int32) dX4_lookFor_6 (by decide) ?_
  refine pf_X4_9 C dX4_lookFor_7 ?_
  have hG320 := Gd.si (k := 10) hG319 rfl (iv_wk (iv_c (c := 0) (x := (0 : Int32)) (by decide)) (by decide) (by decide) : iv (-2147483648) 2147483647 (0 : Int32))
  refine at_iconst C (0 : Int32) dX4_lookFor_10 (by decide) ?_
  refine at_istore_n C (lv' := [(2, .int (0 : Int32)), (0, .ref (e_q E 2)), (1, .int x1)]) dX4_lookFor_11 hn2 rfl ?_
  exact at_sub [1, 2, 0] rfl (K12 _ (0 : Int32) (ac_si (ac_si σ 11 (0 : Int32)) 10 (0 : Int32)) (Nat.lt_succ_self _) (iv_wk (iv_c (c := 0) (x := (0 : Int32)) (by decide)) (by decide) (by decide) : iv 0 10 (0 : Int32)) hG320 (show ((0 : Int32)).toInt ≤ ((0 : Int32)).toInt from by decide))
set_option maxHeartbeats 4000000 in
set_option maxRecDepth 100000 in
theorem ct_X4_finds (σ : SS) (x1 : Int32) (hI : Inv σ) : ConI yX4_finds cX4_finds 2 (some .boolean) 14 (some 2) [.int x1] σ (fun r σ' => Gd σ σ' ∧ (r = 0 ∨ r = 1)) := by
  refine conZ_of (by decide) (fun q => Nat.le_of_ble_eq_true rfl) (fun r u h => h.2) (fun E C en hR => ?_)
  have hG0 : Gd σ σ := Gd.rf hI
  have K61 : ∀ (s61 : SS), iv 0 1023 x1 → Gd σ s61 → AT E 61 [(0, .ref (e_q E 2)), (1, .int x1)] [] s61 := by
    intro s61 b1_61 hG_61
    refine at_aload_n C 0 dX4_finds_61 rfl ?_
    refine gf_X4_28 C dX4_finds_62 ?_
    refine at_iload_n C 1 dX4_finds_65 rfl ?_
    refine at_iald C (c := 13) rfl (iv_in (n := 1024) b1_61 (by decide) (by decide)) dX4_finds_66 ?_
    refine at_iconst C (1 : Int32) dX4_finds_67 (by decide) ?_
    refine at_iand C dX4_finds_68 ?_
    refine at_if_eq C 76 dX4_finds_69 (by decide) (fun c137 => ?_) (fun c137 => ?_)
    · have f138 : iv 0 0 ((ac_ga s61 13 (x1).toNatClampNeg) &&& (1 : Int32)) := (iv_eql (iv_c (c := 0) (x := (0 : Int32)) (by decide)) c137)
      refine at_iconst C (0 : Int32) dX4_finds_76 (by decide) ?_
      exact hR _ _ _ _ dX4_finds_77 ⟨hG_61, Or.inl rfl⟩
    · have f139 : iv 1 1 ((ac_ga s61 13 (x1).toNatClampNeg) &&& (1 : Int32)) := (iv_nel (iv_andr (iv_wk (c := 0) (iv_c (c := 1) (x := (1 : Int32)) (by decide)) (by decide) (Int.le_refl _))) (by decide) c137)
      refine at_iconst C (1 : Int32) dX4_finds_72 (by decide) ?_
      refine at_goto C 77 dX4_finds_73 (by decide) ?_
      exact hR _ _ _ _ dX4_finds_77 ⟨hG_61, Or.inr rfl⟩
  have K59 : ∀ (z0_59 : Int32) (z1_59 : Int32) (z2_59 : Int32) (s59 : SS), iv 0 1023 x1 → iv 0 1 z0_59 → iv (-2147483648) 2147483647 z1_59 → iv 0 1023 z2_59 → Gd σ s59 → AT E 59 [(0, .ref (e_q E 2)), (1, .int x1)] [.int z0_59, .int z1_59, .int z2_59, .ref (e_q E 13)] s59 := by
    intro z0_59 z1_59 z2_59 s59 b1_59 bz0_59 bz1_59 bz2_59 hG_59
    refine at_ior C dX4_finds_59 ?_
    refine at_iast C (c := 13) rfl (fun f => ac_ast_13 _ _ _ _ f) (iv_in (n := 1024) bz2_59 (by decide) (by decide)) dX4_finds_60 ?_
    have hG140 := Gd.sa (c := 13) (i := (z2_59).toNatClampNeg) hG_59 rfl (show iv (-2147483648) 2147483647 (z1_59 ||| z0_59) from (iv_any (z1_59 ||| z0_59)))
    exact at_sub [0, 1] rfl (K61 (ac_sa s59 13 (upd (ac_ga s59 13) (z2_59).toNatClampNeg (z1_59 ||| z0_59))) (show iv 0 1023 x1 from b1_59) hG140)
  refine at_aload_n C 0 dX4_finds_0 rfl ?_
  refine gf_X4_31 C dX4_finds_1 ?_
  refine at_iload_n C 1 dX4_finds_4 rfl ?_
  refine at_Vi C (As := [.int x1]) (st := []) (b := 1) (ci := 0) (ct_X0_isSet σ x1) mb_X0_isSet ml_X4_51 rfl rfl rfl (by decide) rfl (Nat.le_of_ble_eq_true rfl) dX4_finds_5 ?_
  rintro _ _ ⟨rfl, ⟨rfl, c141⟩ | ⟨rfl, c141⟩⟩
  · have f143 : iv 0 1023 x1 := (iv_of3 c141 (iv_shl1 (a := 0) (b := 10) (show iv 0 10 (ac_gi σ 0) from hI.1 0) (by decide)))
    refine at_if_ne C 13 dX4_finds_8 (by decide) (fun c144 => ?_) (fun c144 => absurd c144 (iv_xeq (iv_c (c := 1) (x := (1 : Int32)) (by decide)) (iv_c (c := 0) (x := (0 : Int32)) (by decide)) (by decide)))
    refine at_aload_n C 0 dX4_finds_13 rfl ?_
    refine gf_X4_28 C dX4_finds_14 ?_
    refine at_iload_n C 1 dX4_finds_17 rfl ?_
    refine at_iald C (c := 13) rfl (iv_in (n := 1024) f143 (by decide) (by decide)) dX4_finds_18 ?_
    refine at_iconst C (1 : Int32) dX4_finds_19 (by decide) ?_
    refine at_ishr C dX4_finds_20 ?_
    refine at_aload_n C 0 dX4_finds_21 rfl ?_
    refine gf_X4_31 C dX4_finds_22 ?_
    refine gf_X4_55 C dX4_finds_25 ?_
    refine at_icmp_eq C 61 dX4_finds_28 (by decide) (fun c145 => ?_) (fun c145 => ?_)
    · exact at_sub [0, 1] rfl (K61 σ (show iv 0 1023 x1 from f143) hG0)
    · refine at_aload_n C 0 dX4_finds_31 rfl ?_
      refine gf_X4_28 C dX4_finds_32 ?_
      refine at_iload_n C 1 dX4_finds_35 rfl ?_
      refine at_aload_n C 0 dX4_finds_36 rfl ?_
      refine gf_X4_31 C dX4_finds_37 ?_
      refine gf_X4_55 C dX4_finds_40 ?_
      refine at_iconst C (1 : Int32) dX4_finds_43 (by decide) ?_
      refine at_ishl C dX4_finds_44 ?_
      refine at_aload_n C 0 dX4_finds_45 rfl ?_
      refine at_iload_n C 1 dX4_finds_46 rfl ?_
      refine at_Vi C (As := [.int x1]) (st := [.int ((ac_gi σ 3) <<< ((1 : Int32) &&& 31)), .int x1, .ref (e_q E 13)]) (b := 2) (ci := 4) (ct_X4_lookFor σ x1 hI) mb_X4_lookFor ml_X4_58 rfl rfl rfl (by decide) rfl (Nat.le_of_ble_eq_true rfl) dX4_finds_47 ?_
      rintro r146 u148 ⟨hg149, f147⟩
      have hG150 := hG0.tr hg149
      refine at_iconst C (1 : Int32) dX4_finds_50 (by decide) ?_
      refine at_icmp_ne C 58 dX4_finds_51 (by decide) (fun c151 => ?_) (fun c151 => ?_)
      · refine at_iconst C (0 : Int32) dX4_finds_58 (by decide) ?_
        exact at_sub [0, 1] rfl (K59 (0 : Int32) ((ac_gi σ 3) <<< ((1 : Int32) &&& 31)) x1 u148 (show iv 0 1023 x1 from f143) (iv_wk (iv_c (c := 0) (x := (0 : Int32)) (by decide)) (by decide) (by decide) : iv 0 1 (0 : Int32)) (show iv (-2147483648) 2147483647 ((ac_gi σ 3) <<< ((1 : Int32) &&& 31)) from (iv_any ((ac_gi σ 3) <<< ((1 : Int32) &&& 31)))) (show iv 0 1023 x1 from f143) hG150)
      · have f152 : iv 1 1 r146 := (iv_eql (iv_c (c := 1) (x := (1 : Int32)) (by decide)) c151)
        refine at_iconst C (1 : Int32) dX4_finds_54 (by decide) ?_
        refine at_goto C 59 dX4_finds_55 (by decide) ?_
        exact at_sub [0, 1] rfl (K59 (1 : Int32) ((ac_gi σ 3) <<< ((1 : Int32) &&& 31)) x1 u148 (show iv 0 1023 x1 from f143) (iv_wk (iv_c (c := 1) (x := (1 : Int32)) (by decide)) (by decide) (by decide) : iv 0 1 (1 : Int32)) (show iv (-2147483648) 2147483647 ((ac_gi σ 3) <<< ((1 : Int32) &&& 31)) from (iv_any ((ac_gi σ 3) <<< ((1 : Int32) &&& 31)))) (show iv 0 1023 x1 from f143) hG150)
  · refine at_if_ne C 13 dX4_finds_8 (by decide) (fun c153 => absurd (iv_xne (iv_c (c := 0) (x := (0 : Int32)) (by decide)) (iv_c (c := 0) (x := (0 : Int32)) (by decide))) c153) (fun c153 => ?_)
    refine at_iconst C (0 : Int32) dX4_finds_11 (by decide) ?_
    exact hR _ _ _ _ dX4_finds_12 ⟨hG0, Or.inl rfl⟩
