set_option maxHeartbeats 4000000 in
set_option maxRecDepth 100000 in
theorem ct_X7_findWorths (σ : SS) (x1 : Int32) (hI : Inv σ) (g1 : iv 0 63 x1) : ConV yX7_findWorths cX7_findWorths 8 none 0 (some 30) [.int x1] σ (fun σ' => Gd σ σ' ∧ (foR σ (x1).toNatClampNeg (ac_ga σ' 47) (-1))) := by
  refine conV_of (by decide) (fun q => Nat.le_of_ble_eq_true rfl) (fun E C en hR => ?_)
  have hn2 : 2 < e_n E := by rw [en]; decide
  have hn3 : 3 < e_n E := by rw [en]; decide
  have hn4 : 4 < e_n E := by rw [en]; decide
  have hn5 : 5 < e_n E := by rw [en]; decide
  have hn6 : 6 < e_n E := by rw [en]; decide
  have hn7 : 7 < e_n E := by rw [en]; decide
  have hG0 : Gd σ σ := Gd.rf hI
  have K27 : ∀ (n27 : Nat) (y2_27 : Int32) (s27 : SS), ((y2_27).toInt - (-1)).toNat < n27 → iv (-1) 5 y2_27 → Gd σ s27 → (foR σ (x1).toNatClampNeg (ac_ga s27 47) (y2_27).toInt) → AT E 27 [(0, .ref (e_q E 30)), (1, .int x1), (2, .int y2_27)] [] s27 := by
    intro n27
    induction n27 with
    | zero => intro y2_27 s27 hm; exact absurd hm (Nat.not_lt_zero _)
    | succ n27 ih27 =>
      intro y2_27 s27 hm27 b2_27 hG_27 e0_27
      have K33 : ∀ (n33 : Nat) (y3_33 : Int32) (s33 : SS), (64 - (y3_33).toInt).toNat < n33 → iv 0 5 y2_27 → iv 0 64 y3_33 → Gd σ s33 → (fo_C (ac_ga σ 42) (ac_ga σ 43) (ac_ga σ 44) (ac_gi σ 26).toNatClampNeg (x1).toNatClampNeg (ac_ga s33 47) y2_27 y3_33) → AT E 33 [(0, .ref (e_q E 30)), (1, .int x1), (2, .int y2_27), (3, .int y3_33)] [] s33 := by
        intro n33
        induction n33 with
        | zero => intro y3_33 s33 hm; exact absurd hm (Nat.not_lt_zero _)
        | succ n33 ih33 =>
          intro y3_33 s33 hm33 b2_33 b3_33 hG_33 e0_33
          have K57 : ∀ (n57 : Nat) (y4_57 : Int32) (y5_57 : Int32), (24 - (y5_57).toInt).toNat < n57 → iv 0 63 y3_33 → iv (-2147483648) 2147483647 y4_57 → iv 0 24 y5_57 → ((y4_57).toInt = fo_V (ac_ga σ 42) (ac_ga σ 43) (ac_ga σ 44) (ac_gi σ 26).toNatClampNeg (x1).toNatClampNeg (y2_27).toNatClampNeg (y3_33).toNatClampNeg (y5_57).toNatClampNeg) → ((y5_57).toInt ≤ (ac_gi σ 26).toInt) → AT E 57 [(0, .ref (e_q E 30)), (1, .int x1), (2, .int y2_27), (3, .int y3_33), (4, .int y4_57), (5, .int y5_57)] [] s33 := by
            intro n57
            induction n57 with
            | zero => intro y4_57 y5_57 hm; exact absurd hm (Nat.not_lt_zero _)
            | succ n57 ih57 =>
              intro y4_57 y5_57 hm57 b3_57 b4_57 b5_57 e0_57 e1_57
              refine at_iload C 5 dX7_findWorths_57 rfl ?_
              refine at_aload_n C 0 dX7_findWorths_59 rfl ?_
              refine gf_X7_191 C dX7_findWorths_60 ?_
              refine at_icmp_ge C 176 dX7_findWorths_63 (by decide) (fun c1086 => ?_) (fun c1086 => ?_)
              · refine at_aload_n C 0 dX7_findWorths_176 rfl ?_
                refine gf_X7_72 C dX7_findWorths_177 ?_
                refine at_bipush C (64 : Int32) dX7_findWorths_180 (by decide) ?_
                refine at_iload_n C 2 dX7_findWorths_182 rfl ?_
                refine at_imul C dX7_findWorths_183 ?_
                refine at_iload_n C 3 dX7_findWorths_184 rfl ?_
                refine at_iadd C dX7_findWorths_185 ?_
                refine at_iload C 4 dX7_findWorths_186 rfl ?_
                refine at_iast C (c := 47) rfl (fun f => ac_ast_47 _ _ _ _ f) (iv_in (n := 448) (iv_add (iv_mul (iv_wk (c := 0) (iv_c (c := 64) (x := (64 : Int32)) (by decide)) (by decide) (Int.le_refl _)) b2_33 (by decide)) b3_57 (by decide) (by decide)) (by decide) (by decide)) dX7_findWorths_188 ?_
                have hG1087 := Gd.sa (c := 47) (i := ((((64 : Int32) * y2_27) + y3_33)).toNatClampNeg) hG_33 rfl (show iv (-2147483648) 2147483647 y4_57 from b4_57)
                refine at_iinc C (v := (y3_33 + (1 : Int32))) (lv' := [(3, .int (y3_33 + (1 : Int32))), (0, .ref (e_q E 30)), (1, .int x1), (2, .int y2_27), (4, .int y4_57), (5, .int y5_57)]) 3 dX7_findWorths_189 rfl rfl hn3 rfl ?_
                refine at_goto C 33 dX7_findWorths_192 (by decide) ?_
                exact at_sub [1, 2, 3, 0] rfl (ih33 (y3_33 + (1 : Int32)) (ac_sa s33 47 (upd (ac_ga s33 47) ((((64 : Int32) * y2_27) + y3_33)).toNatClampNeg y4_57)) (mz_up hm33 (ac_ti1 b3_57 (iv_c (c := 1) (x := (1 : Int32)) (by decide)) (by decide) (by decide) (by decide)) (by decide) (iv_wk (iv_add b3_57 (iv_c (c := 1) (x := (1 : Int32)) (by decide)) (by decide) (by decide)) (by decide) (by decide) : iv 0 64 (y3_33 + (1 : Int32))).2) (show iv 0 5 y2_27 from b2_33) (iv_wk (iv_add b3_57 (iv_c (c := 1) (x := (1 : Int32)) (by decide)) (by decide) (by decide)) (by decide) (by decide) : iv 0 64 (y3_33 + (1 : Int32))) hG1087 (fo_w (iv_wk b2_33 (by decide) (by decide) : iv 0 5 y2_27) (iv_wk b3_57 (by decide) (by decide) : iv 0 63 y3_33) e0_33 e0_57 e1_57 (by have q := c1086; rw [hG_33.2.1 26 rfl] at q; exact q)))
              · have f1088 : iv 0 23 y5_57 := (iv_ltl b5_57 (show iv 0 24 (ac_gi s33 26) from hG_33.1.1 26) (Int32.not_le.mp c1086))
                have f1089 : iv 1 24 (ac_gi s33 26) := (iv_ltr b5_57 (show iv 0 24 (ac_gi s33 26) from hG_33.1.1 26) (Int32.not_le.mp c1086))
                refine at_aload_n C 0 dX7_findWorths_66 rfl ?_
                refine gf_X7_57 C dX7_findWorths_67 ?_
                refine at_iload C 5 dX7_findWorths_70 rfl ?_
                refine at_iald C (c := 42) rfl (iv_in (n := 24) f1088 (by decide) (by decide)) dX7_findWorths_72 ?_
                refine at_iload_n C 2 dX7_findWorths_73 rfl ?_
                refine at_icmp_ne C 109 dX7_findWorths_74 (by decide) (fun c1090 => ?_) (fun c1090 => ?_)
                · refine at_iconst C (0 : Int32) dX7_findWorths_109 (by decide) ?_
                  refine at_istore C (lv' := [(6, .int (0 : Int32)), (0, .ref (e_q E 30)), (1, .int x1), (2, .int y2_27), (3, .int y3_33), (4, .int y4_57), (5, .int y5_57)]) dX7_findWorths_110 hn6 rfl ?_
                  refine at_iload C 0 dX7_findWorths_112 rfl ?_
                  refine at_if_eq C 151 dX7_findWorths_114 (by decide) (fun c1091 => ?_) (fun c1091 => absurd (iv_xne (iv_c (c := 0) (x := (0 : Int32)) (by decide)) (iv_c (c := 0) (x := (0 : Int32)) (by decide))) c1091)
                  refine at_iconst C (0 : Int32) dX7_findWorths_151 (by decide) ?_
                  refine at_istore C (lv' := [(7, .int (0 : Int32)), (6, .int (0 : Int32)), (0, .ref (e_q E 30)), (1, .int x1), (2, .int y2_27), (3, .int y3_33), (4, .int y4_57), (5, .int y5_57)]) dX7_findWorths_152 hn7 rfl ?_
                  refine at_iload C 0 dX7_findWorths_154 rfl ?_
                  refine at_iload C 6 dX7_findWorths_156 rfl ?_
                  refine at_icmp_le C 166 dX7_findWorths_158 (by decide) (fun c1092 => ?_) (fun c1092 => ?_)
                  · have f1093 : iv 0 2147483647 y4_57 := (iv_ler (iv_c (c := 0) (x := (0 : Int32)) (by decide)) b4_57 c1092)
                    refine at_iload C 6 dX7_findWorths_166 rfl ?_
                    refine at_istore C (lv' := [(4, .int y4_57), (7, .int (0 : Int32)), (6, .int (0 : Int32)), (0, .ref (e_q E 30)), (1, .int x1), (2, .int y2_27), (3, .int y3_33), (5, .int y5_57)]) dX7_findWorths_168 hn4 rfl ?_
                    refine at_iinc C (v := (y5_57 + (1 : Int32))) (lv' := [(5, .int (y5_57 + (1 : Int32))), (4, .int y4_57), (7, .int (0 : Int32)), (6, .int (0 : Int32)), (0, .ref (e_q E 30)), (1, .int x1), (2, .int y2_27), (3, .int y3_33)]) 7 dX7_findWorths_170 rfl rfl hn5 rfl ?_
                    refine at_goto C 57 dX7_findWorths_173 (by decide) ?_
                    exact at_sub [4, 5, 6, 7, 1, 0] rfl (ih57 y4_57 (y5_57 + (1 : Int32)) (mz_up hm57 (ac_ti1 f1088 (iv_c (c := 1) (x := (1 : Int32)) (by decide)) (by decide) (by decide) (by decide)) (by decide) (iv_wk (iv_add f1088 (iv_c (c := 1) (x := (1 : Int32)) (by decide)) (by decide) (by decide)) (by decide) (by decide) : iv 0 24 (y5_57 + (1 : Int32))).2) (show iv 0 63 y3_33 from b3_57) (iv_wk f1093 (by decide) (by decide) : iv (-2147483648) 2147483647 y4_57) (iv_wk (iv_add f1088 (iv_c (c := 1) (x := (1 : Int32)) (by decide)) (by decide) (by decide)) (by decide) (by decide) : iv 0 24 (y5_57 + (1 : Int32))) (fo_vn hI.mS hI.mB g1 (iv_wk b2_33 (by decide) (by decide) : iv 0 5 y2_27) (iv_wk b3_57 (by decide) (by decide) : iv 0 63 y3_33) (iv_wk f1088 (by decide) (by decide) : iv 0 23 y5_57) e0_57 (fun z => absurd z.1 (by have q := c1090; rw [hG_33.2.2 42 rfl] at q; exact q))) (by have q := iv_lt (Int32.not_le.mp c1086); rw [hG_33.2.1 26 rfl] at q; have q2 := ac_ti1 (iv_wk f1088 (by decide) (by decide) : iv 0 23 y5_57) (iv_c (c := 1) (x := (1 : Int32)) (by decide)) (by decide) (by decide) (by decide); omega))
                  · have f1094 : iv (-2147483648) (-1) y4_57 := (iv_ltl b4_57 (iv_c (c := 0) (x := (0 : Int32)) (by decide)) (Int32.not_le.mp c1092))
                    refine at_iload C 0 dX7_findWorths_161 rfl ?_
                    refine at_goto C 168 dX7_findWorths_163 (by decide) ?_
                    refine at_istore C (lv' := [(4, .int (0 : Int32)), (7, .int (0 : Int32)), (6, .int (0 : Int32)), (0, .ref (e_q E 30)), (1, .int x1), (2, .int y2_27), (3, .int y3_33), (5, .int y5_57)]) dX7_findWorths_168 hn4 rfl ?_
                    refine at_iinc C (v := (y5_57 + (1 : Int32))) (lv' := [(5, .int (y5_57 + (1 : Int32))), (4, .int (0 : Int32)), (7, .int (0 : Int32)), (6, .int (0 : Int32)), (0, .ref (e_q E 30)), (1, .int x1), (2, .int y2_27), (3, .int y3_33)]) 7 dX7_findWorths_170 rfl rfl hn5 rfl ?_
                    refine at_goto C 57 dX7_findWorths_173 (by decide) ?_
                    exact at_sub [4, 5, 6, 7, 1, 0] rfl (ih57 (0 : Int32) (y5_57 + (1 : Int32)) (mz_up hm57 (ac_ti1 f1088 (iv_c (c := 1) (x := (1 : Int32)) (by decide)) (by decide) (by decide) (by decide)) (by decide) (iv_wk (iv_add f1088 (iv_c (c := 1) (x := (1 : Int32)) (by decide)) (by decide) (by decide)) (by decide) (by decide) : iv 0 24 (y5_57 + (1 : Int32))).2) (show iv 0 63 y3_33 from b3_57) (iv_wk (iv_c (c := 0) (x := (0 : Int32)) (by decide)) (by decide) (by decide) : iv (-2147483648) 2147483647 (0 : Int32)) (iv_wk (iv_add f1088 (iv_c (c := 1) (x := (1 : Int32)) (by decide)) (by decide) (by decide)) (by decide) (by decide) : iv 0 24 (y5_57 + (1 : Int32))) (fo_ng hI.mS e0_57 (Int32.not_le.mp c1092)) (by have q := iv_lt (Int32.not_le.mp c1086); rw [hG_33.2.1 26 rfl] at q; have q2 := ac_ti1 (iv_wk f1088 (by decide) (by decide) : iv 0 23 y5_57) (iv_c (c := 1) (x := (1 : Int32)) (by decide)) (by decide) (by decide) (by decide); omega))
                · have f1095 : iv 0 5 (ac_ga s33 42 (y5_57).toNatClampNeg) := (iv_eql b2_33 c1090)
                  refine at_iload_n C 1 dX7_findWorths_77 rfl ?_
                  refine at_iload_n C 2 dX7_findWorths_78 rfl ?_
                  refine at_ishr C dX7_findWorths_79 ?_
                  refine at_iconst C (1 : Int32) dX7_findWorths_80 (by decide) ?_
                  refine at_iand C dX7_findWorths_81 ?_
                  refine at_iconst C (1 : Int32) dX7_findWorths_82 (by decide) ?_
                  refine at_icmp_ne C 109 dX7_findWorths_83 (by decide) (fun c1096 => ?_) (fun c1096 => ?_)
                  · have f1097 : iv 0 0 ((x1 >>> (y2_27 &&& 31)) &&& (1 : Int32)) := (iv_neh (iv_andr (iv_wk (c := 0) (iv_c (c := 1) (x := (1 : Int32)) (by decide)) (by decide) (Int.le_refl _))) (by decide) c1096)
                    refine at_iconst C (0 : Int32) dX7_findWorths_109 (by decide) ?_
                    refine at_istore C (lv' := [(6, .int (0 : Int32)), (0, .ref (e_q E 30)), (1, .int x1), (2, .int y2_27), (3, .int y3_33), (4, .int y4_57), (5, .int y5_57)]) dX7_findWorths_110 hn6 rfl ?_
                    refine at_iload C 0 dX7_findWorths_112 rfl ?_
                    refine at_if_eq C 151 dX7_findWorths_114 (by decide) (fun c1098 => ?_) (fun c1098 => absurd (iv_xne (iv_c (c := 0) (x := (0 : Int32)) (by decide)) (iv_c (c := 0) (x := (0 : Int32)) (by decide))) c1098)
                    refine at_iconst C (0 : Int32) dX7_findWorths_151 (by decide) ?_
                    refine at_istore C (lv' := [(7, .int (0 : Int32)), (6, .int (0 : Int32)), (0, .ref (e_q E 30)), (1, .int x1), (2, .int y2_27), (3, .int y3_33), (4, .int y4_57), (5, .int y5_57)]) dX7_findWorths_152 hn7 rfl ?_
                    refine at_iload C 0 dX7_findWorths_154 rfl ?_
                    refine at_iload C 6 dX7_findWorths_156 rfl ?_
                    refine at_icmp_le C 166 dX7_findWorths_158 (by decide) (fun c1099 => ?_) (fun c1099 => ?_)
                    · have f1100 : iv 0 2147483647 y4_57 := (iv_ler (iv_c (c := 0) (x := (0 : Int32)) (by decide)) b4_57 c1099)
                      refine at_iload C 6 dX7_findWorths_166 rfl ?_
                      refine at_istore C (lv' := [(4, .int y4_57), (7, .int (0 : Int32)), (6, .int (0 : Int32)), (0, .ref (e_q E 30)), (1, .int x1), (2, .int y2_27), (3, .int y3_33), (5, .int y5_57)]) dX7_findWorths_168 hn4 rfl ?_
                      refine at_iinc C (v := (y5_57 + (1 : Int32))) (lv' := [(5, .int (y5_57 + (1 : Int32))), (4, .int y4_57), (7, .int (0 : Int32)), (6, .int (0 : Int32)), (0, .ref (e_q E 30)), (1, .int x1), (2, .int y2_27), (3, .int y3_33)]) 7 dX7_findWorths_170 rfl rfl hn5 rfl ?_
                      refine at_goto C 57 dX7_findWorths_173 (by decide) ?_
                      exact at_sub [4, 5, 6, 7, 1, 0] rfl (ih57 y4_57 (y5_57 + (1 : Int32)) (mz_up hm57 (ac_ti1 f1088 (iv_c (c := 1) (x := (1 : Int32)) (by decide)) (by decide) (by decide) (by decide)) (by decide) (iv_wk (iv_add f1088 (iv_c (c := 1) (x := (1 : Int32)) (by decide)) (by decide) (by decide)) (by decide) (by decide) : iv 0 24 (y5_57 + (1 : Int32))).2) (show iv 0 63 y3_33 from b3_57) (iv_wk f1100 (by decide) (by decide) : iv (-2147483648) 2147483647 y4_57) (iv_wk (iv_add f1088 (iv_c (c := 1) (x := (1 : Int32)) (by decide)) (by decide) (by decide)) (by decide) (by decide) : iv 0 24 (y5_57 + (1 : Int32))) (fo_vn hI.mS hI.mB g1 (iv_wk b2_33 (by decide) (by decide) : iv 0 5 y2_27) (iv_wk b3_57 (by decide) (by decide) : iv 0 63 y3_33) (iv_wk f1088 (by decide) (by decide) : iv 0 23 y5_57) e0_57 (fun z => c1096 z.2.1)) (by have q := iv_lt (Int32.not_le.mp c1086); rw [hG_33.2.1 26 rfl] at q; have q2 := ac_ti1 (iv_wk f1088 (by decide) (by decide) : iv 0 23 y5_57) (iv_c (c := 1) (x := (1 : Int32)) (by decide)) (by decide) (by decide) (by decide); omega))
                    · have f1101 : iv (-2147483648) (-1) y4_57 := (iv_ltl b4_57 (iv_c (c := 0) (x := (0 : Int32)) (by decide)) (Int32.not_le.mp c1099))
                      refine at_iload C 0 dX7_findWorths_161 rfl ?_
                      refine at_goto C 168 dX7_findWorths_163 (by decide) ?_
                      refine at_istore C (lv' := [(4, .int (0 : Int32)), (7, .int (0 : Int32)), (6, .int (0 : Int32)), (0, .ref (e_q E 30)), (1, .int x1), (2, .int y2_27), (3, .int y3_33), (5, .int y5_57)]) dX7_findWorths_168 hn4 rfl ?_
                      refine at_iinc C (v := (y5_57 + (1 : Int32))) (lv' := [(5, .int (y5_57 + (1 : Int32))), (4, .int (0 : Int32)), (7, .int (0 : Int32)), (6, .int (0 : Int32)), (0, .ref (e_q E 30)), (1, .int x1), (2, .int y2_27), (3, .int y3_33)]) 7 dX7_findWorths_170 rfl rfl hn5 rfl ?_
                      refine at_goto C 57 dX7_findWorths_173 (by decide) ?_
                      exact at_sub [4, 5, 6, 7, 1, 0] rfl (ih57 (0 : Int32) (y5_57 + (1 : Int32)) (mz_up hm57 (ac_ti1 f1088 (iv_c (c := 1) (x := (1 : Int32)) (by decide)) (by decide) (by decide) (by decide)) (by decide) (iv_wk (iv_add f1088 (iv_c (c := 1) (x := (1 : Int32)) (by decide)) (by decide) (by decide)) (by decide) (by decide) : iv 0 24 (y5_57 + (1 : Int32))).2) (show iv 0 63 y3_33 from b3_57) (iv_wk (iv_c (c := 0) (x := (0 : Int32)) (by decide)) (by decide) (by decide) : iv (-2147483648) 2147483647 (0 : Int32)) (iv_wk (iv_add f1088 (iv_c (c := 1) (x := (1 : Int32)) (by decide)) (by decide) (by decide)) (by decide) (by decide) : iv 0 24 (y5_57 + (1 : Int32))) (fo_ng hI.mS e0_57 (Int32.not_le.mp c1099)) (by have q := iv_lt (Int32.not_le.mp c1086); rw [hG_33.2.1 26 rfl] at q; have q2 := ac_ti1 (iv_wk f1088 (by decide) (by decide) : iv 0 23 y5_57) (iv_c (c := 1) (x := (1 : Int32)) (by decide)) (by decide) (by decide) (by decide); omega))
                  · have f1102 : iv 1 1 ((x1 >>> (y2_27 &&& 31)) &&& (1 : Int32)) := (iv_eql (iv_c (c := 1) (x := (1 : Int32)) (by decide)) c1096)
                    refine at_aload_n C 0 dX7_findWorths_86 rfl ?_
                    refine gf_X7_60 C dX7_findWorths_87 ?_
                    refine at_iload C 5 dX7_findWorths_90 rfl ?_
                    refine at_iald C (c := 43) rfl (iv_in (n := 24) f1088 (by decide) (by decide)) dX7_findWorths_92 ?_
                    refine at_iload_n C 3 dX7_findWorths_93 rfl ?_
                    refine at_iand C dX7_findWorths_94 ?_
                    refine at_aload_n C 0 dX7_findWorths_95 rfl ?_
                    refine gf_X7_60 C dX7_findWorths_96 ?_
                    refine at_iload C 5 dX7_findWorths_99 rfl ?_
                    refine at_iald C (c := 43) rfl (iv_in (n := 24) f1088 (by decide) (by decide)) dX7_findWorths_101 ?_
                    refine at_icmp_ne C 109 dX7_findWorths_102 (by decide) (fun c1103 => ?_) (fun c1103 => ?_)
                    · refine at_iconst C (0 : Int32) dX7_findWorths_109 (by decide) ?_
                      refine at_istore C (lv' := [(6, .int (0 : Int32)), (0, .ref (e_q E 30)), (1, .int x1), (2, .int y2_27), (3, .int y3_33), (4, .int y4_57), (5, .int y5_57)]) dX7_findWorths_110 hn6 rfl ?_
                      refine at_iload C 0 dX7_findWorths_112 rfl ?_
                      refine at_if_eq C 151 dX7_findWorths_114 (by decide) (fun c1104 => ?_) (fun c1104 => absurd (iv_xne (iv_c (c := 0) (x := (0 : Int32)) (by decide)) (iv_c (c := 0) (x := (0 : Int32)) (by decide))) c1104)
                      refine at_iconst C (0 : Int32) dX7_findWorths_151 (by decide) ?_
                      refine at_istore C (lv' := [(7, .int (0 : Int32)), (6, .int (0 : Int32)), (0, .ref (e_q E 30)), (1, .int x1), (2, .int y2_27), (3, .int y3_33), (4, .int y4_57), (5, .int y5_57)]) dX7_findWorths_152 hn7 rfl ?_
                      refine at_iload C 0 dX7_findWorths_154 rfl ?_
                      refine at_iload C 6 dX7_findWorths_156 rfl ?_
                      refine at_icmp_le C 166 dX7_findWorths_158 (by decide) (fun c1105 => ?_) (fun c1105 => ?_)
                      · have f1106 : iv 0 2147483647 y4_57 := (iv_ler (iv_c (c := 0) (x := (0 : Int32)) (by decide)) b4_57 c1105)
                        refine at_iload C 6 dX7_findWorths_166 rfl ?_
                        refine at_istore C (lv' := [(4, .int y4_57), (7, .int (0 : Int32)), (6, .int (0 : Int32)), (0, .ref (e_q E 30)), (1, .int x1), (2, .int y2_27), (3, .int y3_33), (5, .int y5_57)]) dX7_findWorths_168 hn4 rfl ?_
                        refine at_iinc C (v := (y5_57 + (1 : Int32))) (lv' := [(5, .int (y5_57 + (1 : Int32))), (4, .int y4_57), (7, .int (0 : Int32)), (6, .int (0 : Int32)), (0, .ref (e_q E 30)), (1, .int x1), (2, .int y2_27), (3, .int y3_33)]) 7 dX7_findWorths_170 rfl rfl hn5 rfl ?_
                        refine at_goto C 57 dX7_findWorths_173 (by decide) ?_
                        exact at_sub [4, 5, 6, 7, 1, 0] rfl (ih57 y4_57 (y5_57 + (1 : Int32)) (mz_up hm57 (ac_ti1 f1088 (iv_c (c := 1) (x := (1 : Int32)) (by decide)) (by decide) (by decide) (by decide)) (by decide) (iv_wk (iv_add f1088 (iv_c (c := 1) (x := (1 : Int32)) (by decide)) (by decide) (by decide)) (by decide) (by decide) : iv 0 24 (y5_57 + (1 : Int32))).2) (show iv 0 63 y3_33 from b3_57) (iv_wk f1106 (by decide) (by decide) : iv (-2147483648) 2147483647 y4_57) (iv_wk (iv_add f1088 (iv_c (c := 1) (x := (1 : Int32)) (by decide)) (by decide) (by decide)) (by decide) (by decide) : iv 0 24 (y5_57 + (1 : Int32))) (fo_vn hI.mS hI.mB g1 (iv_wk b2_33 (by decide) (by decide) : iv 0 5 y2_27) (iv_wk b3_57 (by decide) (by decide) : iv 0 63 y3_33) (iv_wk f1088 (by decide) (by decide) : iv 0 23 y5_57) e0_57 (fun z => absurd z.2.2 (by have q := c1103; rw [hG_33.2.2 43 rfl] at q; exact q))) (by have q := iv_lt (Int32.not_le.mp c1086); rw [hG_33.2.1 26 rfl] at q; have q2 := ac_ti1 (iv_wk f1088 (by decide) (by decide) : iv 0 23 y5_57) (iv_c (c := 1) (x := (1 : Int32)) (by decide)) (by decide) (by decide) (by decide); omega))
                      · have f1107 : iv (-2147483648) (-1) y4_57 := (iv_ltl b4_57 (iv_c (c := 0) (x := (0 : Int32)) (by decide)) (Int32.not_le.mp c1105))
                        refine at_iload C 0 dX7_findWorths_161 rfl ?_
                        refine at_goto C 168 dX7_findWorths_163 (by decide) ?_
                        refine at_istore C (lv' := [(4, .int (0 : Int32)), (7, .int (0 : Int32)), (6, .int (0 : Int32)), (0, .ref (e_q E 30)), (1, .int x1), (2, .int y2_27), (3, .int y3_33), (5, .int y5_57)]) dX7_findWorths_168 hn4 rfl ?_
                        refine at_iinc C (v := (y5_57 + (1 : Int32))) (lv' := [(5, .int (y5_57 + (1 : Int32))), (4, .int (0 : Int32)), (7, .int (0 : Int32)), (6, .int (0 : Int32)), (0, .ref (e_q E 30)), (1, .int x1), (2, .int y2_27), (3, .int y3_33)]) 7 dX7_findWorths_170 rfl rfl hn5 rfl ?_
                        refine at_goto C 57 dX7_findWorths_173 (by decide) ?_
                        exact at_sub [4, 5, 6, 7, 1, 0] rfl (ih57 (0 : Int32) (y5_57 + (1 : Int32)) (mz_up hm57 (ac_ti1 f1088 (iv_c (c := 1) (x := (1 : Int32)) (by decide)) (by decide) (by decide) (by decide)) (by decide) (iv_wk (iv_add f1088 (iv_c (c := 1) (x := (1 : Int32)) (by decide)) (by decide) (by decide)) (by decide) (by decide) : iv 0 24 (y5_57 + (1 : Int32))).2) (show iv 0 63 y3_33 from b3_57) (iv_wk (iv_c (c := 0) (x := (0 : Int32)) (by decide)) (by decide) (by decide) : iv (-2147483648) 2147483647 (0 : Int32)) (iv_wk (iv_add f1088 (iv_c (c := 1) (x := (1 : Int32)) (by decide)) (by decide) (by decide)) (by decide) (by decide) : iv 0 24 (y5_57 + (1 : Int32))) (fo_ng hI.mS e0_57 (Int32.not_le.mp c1105)) (by have q := iv_lt (Int32.not_le.mp c1086); rw [hG_33.2.1 26 rfl] at q; have q2 := ac_ti1 (iv_wk f1088 (by decide) (by decide) : iv 0 23 y5_57) (iv_c (c := 1) (x := (1 : Int32)) (by decide)) (by decide) (by decide) (by decide); omega))
                    · refine at_iconst C (1 : Int32) dX7_findWorths_105 (by decide) ?_
                      refine at_goto C 110 dX7_findWorths_106 (by decide) ?_
                      refine at_istore C (lv' := [(6, .int (1 : Int32)), (0, .ref (e_q E 30)), (1, .int x1), (2, .int y2_27), (3, .int y3_33), (4, .int y4_57), (5, .int y5_57)]) dX7_findWorths_110 hn6 rfl ?_
                      refine at_iload C 0 dX7_findWorths_112 rfl ?_
                      refine at_if_eq C 151 dX7_findWorths_114 (by decide) (fun c1108 => absurd c1108 (iv_xeq (iv_c (c := 1) (x := (1 : Int32)) (by decide)) (iv_c (c := 0) (x := (0 : Int32)) (by decide)) (by decide))) (fun c1108 => ?_)
                      refine at_aload_n C 1 dX7_findWorths_117 rfl ?_
                      refine gf_X7_63 C dX7_findWorths_118 ?_
                      refine at_iload C 6 dX7_findWorths_121 rfl ?_
                      refine at_iald C (c := 44) rfl (iv_in (n := 24) f1088 (by decide) (by decide)) dX7_findWorths_123 ?_
                      refine at_aload_n C 1 dX7_findWorths_124 rfl ?_
                      refine gf_X7_72 C dX7_findWorths_125 ?_
                      refine at_bipush C (64 : Int32) dX7_findWorths_128 (by decide) ?_
                      refine at_iload_n C 3 dX7_findWorths_130 rfl ?_
                      refine at_iconst C (1 : Int32) dX7_findWorths_131 (by decide) ?_
                      refine at_iadd C dX7_findWorths_132 ?_
                      refine at_imul C dX7_findWorths_133 ?_
                      refine at_iload_n C 4 dX7_findWorths_134 rfl ?_
                      refine at_aload_n C 1 dX7_findWorths_135 rfl ?_
                      refine gf_X7_60 C dX7_findWorths_136 ?_
                      refine at_iload C 6 dX7_findWorths_139 rfl ?_
                      refine at_iald C (c := 43) rfl (iv_in (n := 24) f1088 (by decide) (by decide)) dX7_findWorths_141 ?_
                      refine at_iconst C (-1 : Int32) dX7_findWorths_142 (by decide) ?_
                      refine at_ixor C dX7_findWorths_143 ?_
                      refine at_iand C dX7_findWorths_144 ?_
                      refine at_iadd C dX7_findWorths_145 ?_
                      refine at_iald C (c := 47) rfl (iv_in (n := 448) (iv_add (iv_mul (iv_wk (c := 0) (iv_c (c := 64) (x := (64 : Int32)) (by decide)) (by decide) (Int.le_refl _)) (iv_wk (c := 0) (iv_add b2_33 (iv_c (c := 1) (x := (1 : Int32)) (by decide)) (by decide) (by decide)) (by decide) (Int.le_refl _)) (by decide)) (iv_andl b3_57) (by decide) (by decide)) (by decide) (by decide)) dX7_findWorths_146 ?_
                      refine at_iadd C dX7_findWorths_147 ?_
                      refine at_goto C 152 dX7_findWorths_148 (by decide) ?_
                      refine at_istore C (lv' := [(7, .int ((ac_ga s33 44 (y5_57).toNatClampNeg) + (ac_ga s33 47 ((((64 : Int32) * (y2_27 + (1 : Int32))) + (y3_33 &&& ((ac_ga s33 43 (y5_57).toNatClampNeg) ^^^ (-1 : Int32))))).toNatClampNeg))), (6, .int (1 : Int32)), (0, .ref (e_q E 30)), (1, .int x1), (2, .int y2_27), (3, .int y3_33), (4, .int y4_57), (5, .int y5_57)]) dX7_findWorths_152 hn7 rfl ?_
                      refine at_iload C 0 dX7_findWorths_154 rfl ?_
                      refine at_iload C 6 dX7_findWorths_156 rfl ?_
                      refine at_icmp_le C 166 dX7_findWorths_158 (by decide) (fun c1109 => ?_) (fun c1109 => ?_)
                      · refine at_iload C 6 dX7_findWorths_166 rfl ?_
                        refine at_istore C (lv' := [(4, .int y4_57), (7, .int ((ac_ga s33 44 (y5_57).toNatClampNeg) + (ac_ga s33 47 ((((64 : Int32) * (y2_27 + (1 : Int32))) + (y3_33 &&& ((ac_ga s33 43 (y5_57).toNatClampNeg) ^^^ (-1 : Int32))))).toNatClampNeg))), (6, .int (1 : Int32)), (0, .ref (e_q E 30)), (1, .int x1), (2, .int y2_27), (3, .int y3_33), (5, .int y5_57)]) dX7_findWorths_168 hn4 rfl ?_
                        refine at_iinc C (v := (y5_57 + (1 : Int32))) (lv' := [(5, .int (y5_57 + (1 : Int32))), (4, .int y4_57), (7, .int ((ac_ga s33 44 (y5_57).toNatClampNeg) + (ac_ga s33 47 ((((64 : Int32) * (y2_27 + (1 : Int32))) + (y3_33 &&& ((ac_ga s33 43 (y5_57).toNatClampNeg) ^^^ (-1 : Int32))))).toNatClampNeg))), (6, .int (1 : Int32)), (0, .ref (e_q E 30)), (1, .int x1), (2, .int y2_27), (3, .int y3_33)]) 7 dX7_findWorths_170 rfl rfl hn5 rfl ?_
                        refine at_goto C 57 dX7_findWorths_173 (by decide) ?_
                        exact at_sub [4, 5, 6, 7, 1, 0] rfl (ih57 y4_57 (y5_57 + (1 : Int32)) (mz_up hm57 (ac_ti1 f1088 (iv_c (c := 1) (x := (1 : Int32)) (by decide)) (by decide) (by decide) (by decide)) (by decide) (iv_wk (iv_add f1088 (iv_c (c := 1) (x := (1 : Int32)) (by decide)) (by decide) (by decide)) (by decide) (by decide) : iv 0 24 (y5_57 + (1 : Int32))).2) (show iv 0 63 y3_33 from b3_57) (show iv (-2147483648) 2147483647 y4_57 from b4_57) (iv_wk (iv_add f1088 (iv_c (c := 1) (x := (1 : Int32)) (by decide)) (by decide) (by decide)) (by decide) (by decide) : iv 0 24 (y5_57 + (1 : Int32))) (fo_yb hI.mS hI.mB g1 (iv_wk b2_33 (by decide) (by decide) : iv 0 5 y2_27) (iv_wk b3_57 (by decide) (by decide) : iv 0 63 y3_33) (iv_wk f1088 (by decide) (by decide) : iv 0 23 y5_57) e0_33.1 e0_57 ⟨(by have q := c1090; rw [hG_33.2.2 42 rfl] at q; exact q), c1096, (by have q := c1103; rw [hG_33.2.2 43 rfl] at q; exact q)⟩ (by have q := c1109; rw [hG_33.2.2 43 rfl, hG_33.2.2 44 rfl] at q; exact q)) (by have q := iv_lt (Int32.not_le.mp c1086); rw [hG_33.2.1 26 rfl] at q; have q2 := ac_ti1 (iv_wk f1088 (by decide) (by decide) : iv 0 23 y5_57) (iv_c (c := 1) (x := (1 : Int32)) (by decide)) (by decide) (by decide) (by decide); omega))
                      · have f1110 : iv (-2147483648) 2147483646 y4_57 := (iv_ltl b4_57 (iv_any ((ac_ga s33 44 (y5_57).toNatClampNeg) + (ac_ga s33 47 ((((64 : Int32) * (y2_27 + (1 : Int32))) + (y3_33 &&& ((ac_ga s33 43 (y5_57).toNatClampNeg) ^^^ (-1 : Int32))))).toNatClampNeg))) (Int32.not_le.mp c1109))
                        have f1111 : iv (-2147483647) 2147483647 ((ac_ga s33 44 (y5_57).toNatClampNeg) + (ac_ga s33 47 ((((64 : Int32) * (y2_27 + (1 : Int32))) + (y3_33 &&& ((ac_ga s33 43 (y5_57).toNatClampNeg) ^^^ (-1 : Int32))))).toNatClampNeg)) := (iv_ltr b4_57 (iv_any ((ac_ga s33 44 (y5_57).toNatClampNeg) + (ac_ga s33 47 ((((64 : Int32) * (y2_27 + (1 : Int32))) + (y3_33 &&& ((ac_ga s33 43 (y5_57).toNatClampNeg) ^^^ (-1 : Int32))))).toNatClampNeg))) (Int32.not_le.mp c1109))
                        refine at_iload C 0 dX7_findWorths_161 rfl ?_
                        refine at_goto C 168 dX7_findWorths_163 (by decide) ?_
                        refine at_istore C (lv' := [(4, .int ((ac_ga s33 44 (y5_57).toNatClampNeg) + (ac_ga s33 47 ((((64 : Int32) * (y2_27 + (1 : Int32))) + (y3_33 &&& ((ac_ga s33 43 (y5_57).toNatClampNeg) ^^^ (-1 : Int32))))).toNatClampNeg))), (7, .int ((ac_ga s33 44 (y5_57).toNatClampNeg) + (ac_ga s33 47 ((((64 : Int32) * (y2_27 + (1 : Int32))) + (y3_33 &&& ((ac_ga s33 43 (y5_57).toNatClampNeg) ^^^ (-1 : Int32))))).toNatClampNeg))), (6, .int (1 : Int32)), (0, .ref (e_q E 30)), (1, .int x1), (2, .int y2_27), (3, .int y3_33), (5, .int y5_57)]) dX7_findWorths_168 hn4 rfl ?_
                        refine at_iinc C (v := (y5_57 + (1 : Int32))) (lv' := [(5, .int (y5_57 + (1 : Int32))), (4, .int ((ac_ga s33 44 (y5_57).toNatClampNeg) + (ac_ga s33 47 ((((64 : Int32) * (y2_27 + (1 : Int32))) + (y3_33 &&& ((ac_ga s33 43 (y5_57).toNatClampNeg) ^^^ (-1 : Int32))))).toNatClampNeg))), (7, .int ((ac_ga s33 44 (y5_57).toNatClampNeg) + (ac_ga s33 47 ((((64 : Int32) * (y2_27 + (1 : Int32))) + (y3_33 &&& ((ac_ga s33 43 (y5_57).toNatClampNeg) ^^^ (-1 : Int32))))).toNatClampNeg))), (6, .int (1 : Int32)), (0, .ref (e_q E 30)), (1, .int x1), (2, .int y2_27), (3, .int y3_33)]) 7 dX7_findWorths_170 rfl rfl hn5 rfl ?_
                        refine at_goto C 57 dX7_findWorths_173 (by decide) ?_
                        exact at_sub [4, 5, 6, 7, 1, 0] rfl (ih57 ((ac_ga s33 44 (y5_57).toNatClampNeg) + (ac_ga s33 47 ((((64 : Int32) * (y2_27 + (1 : Int32))) + (y3_33 &&& ((ac_ga s33 43 (y5_57).toNatClampNeg) ^^^ (-1 : Int32))))).toNatClampNeg)) (y5_57 + (1 : Int32)) (mz_up hm57 (ac_ti1 f1088 (iv_c (c := 1) (x := (1 : Int32)) (by decide)) (by decide) (by decide) (by decide)) (by decide) (iv_wk (iv_add f1088 (iv_c (c := 1) (x := (1 : Int32)) (by decide)) (by decide) (by decide)) (by decide) (by decide) : iv 0 24 (y5_57 + (1 : Int32))).2) (show iv 0 63 y3_33 from b3_57) (iv_wk f1111 (by decide) (by decide) : iv (-2147483648) 2147483647 ((ac_ga s33 44 (y5_57).toNatClampNeg) + (ac_ga s33 47 ((((64 : Int32) * (y2_27 + (1 : Int32))) + (y3_33 &&& ((ac_ga s33 43 (y5_57).toNatClampNeg) ^^^ (-1 : Int32))))).toNatClampNeg))) (iv_wk (iv_add f1088 (iv_c (c := 1) (x := (1 : Int32)) (by decide)) (by decide) (by decide)) (by decide) (by decide) : iv 0 24 (y5_57 + (1 : Int32))) (by have qq := fo_ya hI.mS hI.mB g1 (iv_wk b2_33 (by decide) (by decide) : iv 0 5 y2_27) (iv_wk b3_57 (by decide) (by decide) : iv 0 63 y3_33) (iv_wk f1088 (by decide) (by decide) : iv 0 23 y5_57) e0_33.1 e0_57 ⟨(by have q := c1090; rw [hG_33.2.2 42 rfl] at q; exact q), c1096, (by have q := c1103; rw [hG_33.2.2 43 rfl] at q; exact q)⟩ (by have q := (Int32.not_le.mp c1109); rw [hG_33.2.2 43 rfl, hG_33.2.2 44 rfl] at q; exact q); rw [hG_33.2.2 43 rfl, hG_33.2.2 44 rfl]; exact qq) (by have q := iv_lt (Int32.not_le.mp c1086); rw [hG_33.2.1 26 rfl] at q; have q2 := ac_ti1 (iv_wk f1088 (by decide) (by decide) : iv 0 23 y5_57) (iv_c (c := 1) (x := (1 : Int32)) (by decide)) (by decide) (by decide) (by decide); omega))
          refine at_iload_n C 3 dX7_findWorths_33 rfl ?_
          refine at_bipush C (64 : Int32) dX7_findWorths_34 (by decide) ?_
          refine at_icmp_ge C 195 dX7_findWorths_36 (by decide) (fun c1112 => ?_) (fun c1112 => ?_)
          · have f1113 : iv 64 64 y3_33 := (iv_ler (iv_c (c := 64) (x := (64 : Int32)) (by decide)) b3_33 c1112)
            refine at_iinc C (v := (y2_27 + (-1 : Int32))) (lv' := [(2, .int (y2_27 + (-1 : Int32))), (0, .ref (e_q E 30)), (1, .int x1), (3, .int y3_33)]) 2 dX7_findWorths_195 rfl rfl hn2 rfl ?_
            refine at_goto C 27 dX7_findWorths_198 (by decide) ?_
            exact at_sub [1, 2, 0] rfl (ih27 (y2_27 + (-1 : Int32)) s33 (mz_dn hm27 (mz_m1 b2_33 (by decide)) (iv_wk (iv_add b2_33 (iv_c (c := (-1)) (x := (-1 : Int32)) (by decide)) (by decide) (by decide)) (by decide) (by decide) : iv (-1) 5 (y2_27 + (-1 : Int32))).1) (iv_wk (iv_add b2_33 (iv_c (c := (-1)) (x := (-1 : Int32)) (by decide)) (by decide) (by decide)) (by decide) (by decide) : iv (-1) 5 (y2_27 + (-1 : Int32))) hG_33 (fo_cx (iv_wk b2_33 (by decide) (by decide) : iv 0 5 y2_27) (iv_wk f1113 (by decide) (by decide) : iv 0 64 y3_33) e0_33 c1112))
          · have f1114 : iv 0 63 y3_33 := (iv_ltl b3_33 (iv_c (c := 64) (x := (64 : Int32)) (by decide)) (Int32.not_le.mp c1112))
            refine at_aload_n C 0 dX7_findWorths_39 rfl ?_
            refine gf_X7_72 C dX7_findWorths_40 ?_
            refine at_bipush C (64 : Int32) dX7_findWorths_43 (by decide) ?_
            refine at_iload_n C 2 dX7_findWorths_45 rfl ?_
            refine at_iconst C (1 : Int32) dX7_findWorths_46 (by decide) ?_
            refine at_iadd C dX7_findWorths_47 ?_
            refine at_imul C dX7_findWorths_48 ?_
            refine at_iload_n C 3 dX7_findWorths_49 rfl ?_
            refine at_iadd C dX7_findWorths_50 ?_
            refine at_iald C (c := 47) rfl (iv_in (n := 448) (iv_add (iv_mul (iv_wk (c := 0) (iv_c (c := 64) (x := (64 : Int32)) (by decide)) (by decide) (Int.le_refl _)) (iv_wk (c := 0) (iv_add b2_33 (iv_c (c := 1) (x := (1 : Int32)) (by decide)) (by decide) (by decide)) (by decide) (Int.le_refl _)) (by decide)) f1114 (by decide) (by decide)) (by decide) (by decide)) dX7_findWorths_51 ?_
            refine at_istore C (lv' := [(4, .int (ac_ga s33 47 ((((64 : Int32) * (y2_27 + (1 : Int32))) + y3_33)).toNatClampNeg)), (0, .ref (e_q E 30)), (1, .int x1), (2, .int y2_27), (3, .int y3_33)]) dX7_findWorths_52 hn4 rfl ?_
            refine at_iconst C (0 : Int32) dX7_findWorths_54 (by decide) ?_
            refine at_istore C (lv' := [(5, .int (0 : Int32)), (4, .int (ac_ga s33 47 ((((64 : Int32) * (y2_27 + (1 : Int32))) + y3_33)).toNatClampNeg)), (0, .ref (e_q E 30)), (1, .int x1), (2, .int y2_27), (3, .int y3_33)]) dX7_findWorths_55 hn5 rfl ?_
            exact at_sub [2, 3, 4, 5, 1, 0] rfl (K57 _ (ac_ga s33 47 ((((64 : Int32) * (y2_27 + (1 : Int32))) + y3_33)).toNatClampNeg) (0 : Int32) (Nat.lt_succ_self _) (show iv 0 63 y3_33 from f1114) (show iv (-2147483648) 2147483647 (ac_ga s33 47 ((((64 : Int32) * (y2_27 + (1 : Int32))) + y3_33)).toNatClampNeg) from (iv_any (ac_ga s33 47 ((((64 : Int32) * (y2_27 + (1 : Int32))) + y3_33)).toNatClampNeg))) (iv_wk (iv_c (c := 0) (x := (0 : Int32)) (by decide)) (by decide) (by decide) : iv 0 24 (0 : Int32)) (fo_v0 (iv_wk b2_33 (by decide) (by decide) : iv 0 5 y2_27) (iv_wk f1114 (by decide) (by decide) : iv 0 63 y3_33) e0_33) (by have q := hI.mns.1; have q2 : (0 : Int32).toInt = 0 := (by decide); omega))
      refine at_iload_n C 2 dX7_findWorths_27 rfl ?_
      refine at_if_lt C 201 dX7_findWorths_28 (by decide) (fun c1115 => ?_) (fun c1115 => ?_)
      · have f1116 : iv (-1) (-1) y2_27 := (iv_ltl b2_27 (iv_c (c := 0) (x := (0 : Int32)) (by decide)) c1115)
        exact hR _ _ _ dX7_findWorths_201 ⟨hG_27, (fo_rx e0_27 c1115)⟩
      · have f1117 : iv 0 5 y2_27 := (iv_ler (iv_c (c := 0) (x := (0 : Int32)) (by decide)) b2_27 (Int32.not_lt.mp c1115))
        refine at_iconst C (0 : Int32) dX7_findWorths_31 (by decide) ?_
        refine at_istore_n C (lv' := [(3, .int (0 : Int32)), (0, .ref (e_q E 30)), (1, .int x1), (2, .int y2_27)]) dX7_findWorths_32 hn3 rfl ?_
        exact at_sub [1, 2, 3, 0] rfl (K33 _ (0 : Int32) s27 (Nat.lt_succ_self _) (show iv 0 5 y2_27 from f1117) (iv_wk (iv_c (c := 0) (x := (0 : Int32)) (by decide)) (by decide) (by decide) : iv 0 64 (0 : Int32)) hG_27 (fo_c0 e0_27))
  have K2 : ∀ (n2 : Nat) (y2_2 : Int32) (s2 : SS), (64 - (y2_2).toInt).toNat < n2 → iv 0 64 y2_2 → Gd σ s2 → (fo_Z (ac_ga s2 47) y2_2) → AT E 2 [(0, .ref (e_q E 30)), (1, .int x1), (2, .int y2_2)] [] s2 := by
    intro n2
    induction n2 with
    | zero => intro y2_2 s2 hm; exact absurd hm (Nat.not_lt_zero _)
    | succ n2 ih2 =>
      intro y2_2 s2 hm2 b2_2 hG_2 e0_2
      refine at_iload_n C 2 dX7_findWorths_2 rfl ?_
      refine at_bipush C (64 : Int32) dX7_findWorths_3 (by decide) ?_
      refine at_icmp_ge C 25 dX7_findWorths_5 (by decide) (fun c1118 => ?_) (fun c1118 => ?_)
      · have f1119 : iv 64 64 y2_2 := (iv_ler (iv_c (c := 64) (x := (64 : Int32)) (by decide)) b2_2 c1118)
        refine at_iconst C (5 : Int32) dX7_findWorths_25 (by decide) ?_
        refine at_istore_n C (lv' := [(2, .int (5 : Int32)), (0, .ref (e_q E 30)), (1, .int x1)]) dX7_findWorths_26 hn2 rfl ?_
        exact at_sub [1, 2, 0] rfl (K27 _ (5 : Int32) s2 (Nat.lt_succ_self _) (iv_wk (iv_c (c := 5) (x := (5 : Int32)) (by decide)) (by decide) (by decide) : iv (-1) 5 (5 : Int32)) hG_2 (fo_zx (iv_wk f1119 (by decide) (by decide) : iv 0 64 y2_2) e0_2 c1118))
      · have f1120 : iv 0 63 y2_2 := (iv_ltl b2_2 (iv_c (c := 64) (x := (64 : Int32)) (by decide)) (Int32.not_le.mp c1118))
        refine at_aload_n C 0 dX7_findWorths_8 rfl ?_
        refine gf_X7_72 C dX7_findWorths_9 ?_
        refine at_sipush C (384 : Int32) dX7_findWorths_12 (by decide) ?_
        refine at_iload_n C 2 dX7_findWorths_15 rfl ?_
        refine at_iadd C dX7_findWorths_16 ?_
        refine at_iconst C (0 : Int32) dX7_findWorths_17 (by decide) ?_
        refine at_iast C (c := 47) rfl (fun f => ac_ast_47 _ _ _ _ f) (iv_in (n := 448) (iv_add (iv_c (c := 384) (x := (384 : Int32)) (by decide)) f1120 (by decide) (by decide)) (by decide) (by decide)) dX7_findWorths_18 ?_
        have hG1121 := Gd.sa (c := 47) (i := (((384 : Int32) + y2_2)).toNatClampNeg) hG_2 rfl (iv_wk (iv_c (c := 0) (x := (0 : Int32)) (by decide)) (by decide) (by decide) : iv (-2147483648) 2147483647 (0 : Int32))
        refine at_iinc C (v := (y2_2 + (1 : Int32))) (lv' := [(2, .int (y2_2 + (1 : Int32))), (0, .ref (e_q E 30)), (1, .int x1)]) 2 dX7_findWorths_19 rfl rfl hn2 rfl ?_
        refine at_goto C 2 dX7_findWorths_22 (by decide) ?_
        exact at_sub [1, 2, 0] rfl (ih2 (y2_2 + (1 : Int32)) (ac_sa s2 47 (upd (ac_ga s2 47) (((384 : Int32) + y2_2)).toNatClampNeg (0 : Int32))) (mz_up hm2 (ac_ti1 f1120 (iv_c (c := 1) (x := (1 : Int32)) (by decide)) (by decide) (by decide) (by decide)) (by decide) (iv_wk (iv_add f1120 (iv_c (c := 1) (x := (1 : Int32)) (by decide)) (by decide) (by decide)) (by decide) (by decide) : iv 0 64 (y2_2 + (1 : Int32))).2) (iv_wk (iv_add f1120 (iv_c (c := 1) (x := (1 : Int32)) (by decide)) (by decide) (by decide)) (by decide) (by decide) : iv 0 64 (y2_2 + (1 : Int32))) hG1121 (fo_z1 (iv_wk f1120 (by decide) (by decide) : iv 0 63 y2_2) e0_2))
  refine at_iconst C (0 : Int32) dX7_findWorths_0 (by decide) ?_
  refine at_istore_n C (lv' := [(2, .int (0 : Int32)), (0, .ref (e_q E 30)), (1, .int x1)]) dX7_findWorths_1 hn2 rfl ?_
  exact at_sub [1, 2, 0] rfl (K2 _ (0 : Int32) σ (Nat.lt_succ_self _) (iv_wk (iv_c (c := 0) (x := (0 : Int32)) (by decide)) (by decide) (by decide) : iv 0 64 (0 : Int32)) hG0 fo_z0)
set_option maxHeartbeats 4000000 in
set_option maxRecDepth 100000 in
theorem ct_X7_findBest (σ : SS) (x1 : Int32) (hI : Inv σ) (g1 : iv 0 63 x1) : ConV yX7_findBest cX7_findBest 9 none 1 (some 30) [.int x1] σ (fun σ' => Gd σ σ' ∧ (fb_W σ (x1).toNatClampNeg (ac_gi σ' 27) (ac_ga σ' 46))) := by
  refine conV_of (by decide) (fun q => Nat.le_of_ble_eq_true rfl) (fun E C en hR => ?_)
  have hn2 : 2 < e_n E := by rw [en]; decide
  have hn3 : 3 < e_n E := by rw [en]; decide
  have hn4 : 4 < e_n E := by rw [en]; decide
  have hn5 : 5 < e_n E := by rw [en]; decide
  have hn6 : 6 < e_n E := by rw [en]; decide
  have hn7 : 7 < e_n E := by rw [en]; decide
  have hn8 : 8 < e_n E := by rw [en]; decide
  have hG0 : Gd σ σ := Gd.rf hI
  have K21 : ∀ (n21 : Nat) (y2_21 : Int32) (y3_21 : Int32) (s21 : SS), (6 - (y3_21).toInt).toNat < n21 → iv 0 63 y2_21 → iv 0 6 y3_21 → Gd σ s21 → (foR σ (x1).toNatClampNeg (ac_ga s21 47) (-1)) → ((ac_gi s21 27).toInt = WM σ (x1).toNatClampNeg 6 63) → (fb_J (ac_ga σ 42) (ac_ga σ 43) (ac_ga σ 44) (ac_gi σ 26) (x1).toNatClampNeg y2_21 y3_21 (ac_ga s21 46)) → AT E 21 [(0, .ref (e_q E 30)), (1, .int x1), (2, .int y2_21), (3, .int y3_21)] [] s21 := by
    intro n21
    induction n21 with
    | zero => intro y2_21 y3_21 s21 hm; exact absurd hm (Nat.not_lt_zero _)
    | succ n21 ih21 =>
      intro y2_21 y3_21 s21 hm21 b2_21 b3_21 hG_21 e0_21 e1_21 e2_21
      have K76 : ∀ (n76 : Nat) (y4_76 : Int32) (y5_76 : Int32) (y6_76 : Int32) (y7_76 : Int32), ((y7_76).toInt - (-1)).toNat < n76 → iv 0 5 y3_21 → iv (-2147483648) 2147483647 y4_76 → iv (-1) 23 y5_76 → iv 0 1 y6_76 → iv (-1) 23 y7_76 → (fb_I (ac_ga σ 42) (ac_ga σ 43) (ac_ga σ 44) (ac_gi σ 26).toNatClampNeg (x1).toNatClampNeg (y3_21).toNatClampNeg (y2_21).toNatClampNeg y4_76 y5_76 y6_76 y7_76) → ((y7_76).toInt < (ac_gi σ 26).toInt) → AT E 76 [(0, .ref (e_q E 30)), (1, .int x1), (2, .int y2_21), (3, .int y3_21), (4, .int y4_76), (5, .int y5_76), (6, .int y6_76), (7, .int y7_76)] [] s21 := by
        intro n76
        induction n76 with
        | zero => intro y4_76 y5_76 y6_76 y7_76 hm; exact absurd hm (Nat.not_lt_zero _)
        | succ n76 ih76 =>
          intro y4_76 y5_76 y6_76 y7_76 hm76 b3_76 b4_76 b5_76 b6_76 b7_76 e0_76 e1_76
          refine at_iload C 7 dX7_findBest_76 rfl ?_
          refine at_if_lt C 188 dX7_findBest_78 (by decide) (fun c395 => ?_) (fun c395 => ?_)
          · have f396 : iv (-1) (-1) y7_76 := (iv_ltl b7_76 (iv_c (c := 0) (x := (0 : Int32)) (by decide)) c395)
            refine at_aload_n C 0 dX7_findBest_188 rfl ?_
            refine gf_X7_69 C dX7_findBest_189 ?_
            refine at_iload_n C 3 dX7_findBest_192 rfl ?_
            refine at_iload C 5 dX7_findBest_193 rfl ?_
            refine at_iast C (c := 46) rfl (fun f => ac_ast_46 _ _ _ _ f) (iv_in (n := 6) b3_76 (by decide) (by decide)) dX7_findBest_195 ?_
            have hG397 := Gd.sa (c := 46) (i := (y3_21).toNatClampNeg) hG_21 rfl (show iv (-1) 23 y5_76 from b5_76)
            refine at_iload_n C 2 dX7_findBest_196 rfl ?_
            refine at_iload C 5 dX7_findBest_197 rfl ?_
            refine at_if_ge C 207 dX7_findBest_199 (by decide) (fun c398 => ?_) (fun c398 => ?_)
            · have f399 : iv 0 23 y5_76 := (iv_ler (iv_c (c := 0) (x := (0 : Int32)) (by decide)) b5_76 c398)
              refine at_aload_n C 0 dX7_findBest_207 rfl ?_
              refine gf_X7_60 C dX7_findBest_208 ?_
              refine at_iload C 5 dX7_findBest_211 rfl ?_
              refine at_iald C (c := 43) rfl (iv_in (n := 24) f399 (by decide) (by decide)) dX7_findBest_213 ?_
              show AT E 214 [(0, .ref (e_q E 30)), (1, .int x1), (2, .int y2_21), (3, .int y3_21), (4, .int y4_76), (5, .int y5_76), (6, .int y6_76), (7, .int y7_76)] [.int (ac_ga s21 43 (y5_76).toNatClampNeg), .int y2_21] (ac_sa s21 46 (upd (ac_ga s21 46) (y3_21).toNatClampNeg y5_76))
              refine at_iconst C (-1 : Int32) dX7_findBest_214 (by decide) ?_
              refine at_ixor C dX7_findBest_215 ?_
              refine at_iand C dX7_findBest_216 ?_
              refine at_istore_n C (lv' := [(2, .int (y2_21 &&& ((ac_ga s21 43 (y5_76).toNatClampNeg) ^^^ (-1 : Int32)))), (0, .ref (e_q E 30)), (1, .int x1), (3, .int y3_21), (4, .int y4_76), (5, .int y5_76), (6, .int y6_76), (7, .int y7_76)]) dX7_findBest_217 hn2 rfl ?_
              refine at_iinc C (v := (y3_21 + (1 : Int32))) (lv' := [(3, .int (y3_21 + (1 : Int32))), (2, .int (y2_21 &&& ((ac_ga s21 43 (y5_76).toNatClampNeg) ^^^ (-1 : Int32)))), (0, .ref (e_q E 30)), (1, .int x1), (4, .int y4_76), (5, .int y5_76), (6, .int y6_76), (7, .int y7_76)]) 3 dX7_findBest_218 rfl rfl hn3 rfl ?_
              refine at_goto C 21 dX7_findBest_221 (by decide) ?_
              exact at_sub [2, 3, 1, 0] rfl (ih21 (y2_21 &&& ((ac_ga s21 43 (y5_76).toNatClampNeg) ^^^ (-1 : Int32))) (y3_21 + (1 : Int32)) (ac_sa s21 46 (upd (ac_ga s21 46) (y3_21).toNatClampNeg y5_76)) (mz_up hm21 (ac_ti1 b3_76 (iv_c (c := 1) (x := (1 : Int32)) (by decide)) (by decide) (by decide) (by decide)) (by decide) (iv_wk (iv_add b3_76 (iv_c (c := 1) (x := (1 : Int32)) (by decide)) (by decide) (by decide)) (by decide) (by decide) : iv 0 6 (y3_21 + (1 : Int32))).2) (show iv 0 63 (y2_21 &&& ((ac_ga s21 43 (y5_76).toNatClampNeg) ^^^ (-1 : Int32))) from (iv_andl b2_21)) (iv_wk (iv_add b3_76 (iv_c (c := 1) (x := (1 : Int32)) (by decide)) (by decide) (by decide)) (by decide) (by decide) : iv 0 6 (y3_21 + (1 : Int32))) hG397 e0_21 e1_21 (fb_s hI.mB hI.mns (iv_wk b3_76 (by decide) (by decide) : iv 0 5 y3_21) (iv_wk b2_21 (by decide) (by decide) : iv 0 63 y2_21) e2_21 (fb_x e0_76 (Or.inl c395)) (Or.inr ⟨c398, by rw [hG_21.2.2 43 rfl]⟩)))
            · have f400 : iv (-1) (-1) y5_76 := (iv_ltl b5_76 (iv_c (c := 0) (x := (0 : Int32)) (by decide)) (Int32.not_le.mp c398))
              refine at_bipush C (63 : Int32) dX7_findBest_202 (by decide) ?_
              refine at_goto C 216 dX7_findBest_204 (by decide) ?_
              refine at_iand C dX7_findBest_216 ?_
              refine at_istore_n C (lv' := [(2, .int (y2_21 &&& (63 : Int32))), (0, .ref (e_q E 30)), (1, .int x1), (3, .int y3_21), (4, .int y4_76), (5, .int y5_76), (6, .int y6_76), (7, .int y7_76)]) dX7_findBest_217 hn2 rfl ?_
              refine at_iinc C (v := (y3_21 + (1 : Int32))) (lv' := [(3, .int (y3_21 + (1 : Int32))), (2, .int (y2_21 &&& (63 : Int32))), (0, .ref (e_q E 30)), (1, .int x1), (4, .int y4_76), (5, .int y5_76), (6, .int y6_76), (7, .int y7_76)]) 3 dX7_findBest_218 rfl rfl hn3 rfl ?_
              refine at_goto C 21 dX7_findBest_221 (by decide) ?_
              exact at_sub [2, 3, 1, 0] rfl (ih21 (y2_21 &&& (63 : Int32)) (y3_21 + (1 : Int32)) (ac_sa s21 46 (upd (ac_ga s21 46) (y3_21).toNatClampNeg y5_76)) (mz_up hm21 (ac_ti1 b3_76 (iv_c (c := 1) (x := (1 : Int32)) (by decide)) (by decide) (by decide) (by decide)) (by decide) (iv_wk (iv_add b3_76 (iv_c (c := 1) (x := (1 : Int32)) (by decide)) (by decide) (by decide)) (by decide) (by decide) : iv 0 6 (y3_21 + (1 : Int32))).2) (show iv 0 63 (y2_21 &&& (63 : Int32)) from (iv_andl b2_21)) (iv_wk (iv_add b3_76 (iv_c (c := 1) (x := (1 : Int32)) (by decide)) (by decide) (by decide)) (by decide) (by decide) : iv 0 6 (y3_21 + (1 : Int32))) hG397 e0_21 e1_21 (fb_s hI.mB hI.mns (iv_wk b3_76 (by decide) (by decide) : iv 0 5 y3_21) (iv_wk b2_21 (by decide) (by decide) : iv 0 63 y2_21) e2_21 (fb_x e0_76 (Or.inl c395)) (Or.inl ⟨(Int32.not_le.mp c398), rfl⟩)))
          · have f401 : iv 0 23 y7_76 := (iv_ler (iv_c (c := 0) (x := (0 : Int32)) (by decide)) b7_76 (Int32.not_lt.mp c395))
            refine at_iload C 6 dX7_findBest_81 rfl ?_
            refine at_if_ne C 188 dX7_findBest_83 (by decide) (fun c402 => ?_) (fun c402 => ?_)
            · have f403 : iv 1 1 y6_76 := (iv_nel b6_76 (by decide) c402)
              refine at_aload_n C 0 dX7_findBest_188 rfl ?_
              refine gf_X7_69 C dX7_findBest_189 ?_
              refine at_iload_n C 3 dX7_findBest_192 rfl ?_
              refine at_iload C 5 dX7_findBest_193 rfl ?_
              refine at_iast C (c := 46) rfl (fun f => ac_ast_46 _ _ _ _ f) (iv_in (n := 6) b3_76 (by decide) (by decide)) dX7_findBest_195 ?_
              have hG404 := Gd.sa (c := 46) (i := (y3_21).toNatClampNeg) hG_21 rfl (show iv (-1) 23 y5_76 from b5_76)
              refine at_iload_n C 2 dX7_findBest_196 rfl ?_
              refine at_iload C 5 dX7_findBest_197 rfl ?_
              refine at_if_ge C 207 dX7_findBest_199 (by decide) (fun c405 => ?_) (fun c405 => ?_)
              · have f406 : iv 0 23 y5_76 := (iv_ler (iv_c (c := 0) (x := (0 : Int32)) (by decide)) b5_76 c405)
                refine at_aload_n C 0 dX7_findBest_207 rfl ?_
                refine gf_X7_60 C dX7_findBest_208 ?_
                refine at_iload C 5 dX7_findBest_211 rfl ?_
                refine at_iald C (c := 43) rfl (iv_in (n := 24) f406 (by decide) (by decide)) dX7_findBest_213 ?_
                show AT E 214 [(0, .ref (e_q E 30)), (1, .int x1), (2, .int y2_21), (3, .int y3_21), (4, .int y4_76), (5, .int y5_76), (6, .int y6_76), (7, .int y7_76)] [.int (ac_ga s21 43 (y5_76).toNatClampNeg), .int y2_21] (ac_sa s21 46 (upd (ac_ga s21 46) (y3_21).toNatClampNeg y5_76))
                refine at_iconst C (-1 : Int32) dX7_findBest_214 (by decide) ?_
                refine at_ixor C dX7_findBest_215 ?_
                refine at_iand C dX7_findBest_216 ?_
                refine at_istore_n C (lv' := [(2, .int (y2_21 &&& ((ac_ga s21 43 (y5_76).toNatClampNeg) ^^^ (-1 : Int32)))), (0, .ref (e_q E 30)), (1, .int x1), (3, .int y3_21), (4, .int y4_76), (5, .int y5_76), (6, .int y6_76), (7, .int y7_76)]) dX7_findBest_217 hn2 rfl ?_
                refine at_iinc C (v := (y3_21 + (1 : Int32))) (lv' := [(3, .int (y3_21 + (1 : Int32))), (2, .int (y2_21 &&& ((ac_ga s21 43 (y5_76).toNatClampNeg) ^^^ (-1 : Int32)))), (0, .ref (e_q E 30)), (1, .int x1), (4, .int y4_76), (5, .int y5_76), (6, .int y6_76), (7, .int y7_76)]) 3 dX7_findBest_218 rfl rfl hn3 rfl ?_
                refine at_goto C 21 dX7_findBest_221 (by decide) ?_
                exact at_sub [2, 3, 1, 0] rfl (ih21 (y2_21 &&& ((ac_ga s21 43 (y5_76).toNatClampNeg) ^^^ (-1 : Int32))) (y3_21 + (1 : Int32)) (ac_sa s21 46 (upd (ac_ga s21 46) (y3_21).toNatClampNeg y5_76)) (mz_up hm21 (ac_ti1 b3_76 (iv_c (c := 1) (x := (1 : Int32)) (by decide)) (by decide) (by decide) (by decide)) (by decide) (iv_wk (iv_add b3_76 (iv_c (c := 1) (x := (1 : Int32)) (by decide)) (by decide) (by decide)) (by decide) (by decide) : iv 0 6 (y3_21 + (1 : Int32))).2) (show iv 0 63 (y2_21 &&& ((ac_ga s21 43 (y5_76).toNatClampNeg) ^^^ (-1 : Int32))) from (iv_andl b2_21)) (iv_wk (iv_add b3_76 (iv_c (c := 1) (x := (1 : Int32)) (by decide)) (by decide) (by decide)) (by decide) (by decide) : iv 0 6 (y3_21 + (1 : Int32))) hG404 e0_21 e1_21 (fb_s hI.mB hI.mns (iv_wk b3_76 (by decide) (by decide) : iv 0 5 y3_21) (iv_wk b2_21 (by decide) (by decide) : iv 0 63 y2_21) e2_21 (fb_x e0_76 (Or.inr c402)) (Or.inr ⟨c405, by rw [hG_21.2.2 43 rfl]⟩)))
              · have f407 : iv (-1) (-1) y5_76 := (iv_ltl b5_76 (iv_c (c := 0) (x := (0 : Int32)) (by decide)) (Int32.not_le.mp c405))
                refine at_bipush C (63 : Int32) dX7_findBest_202 (by decide) ?_
                refine at_goto C 216 dX7_findBest_204 (by decide) ?_
                refine at_iand C dX7_findBest_216 ?_
                refine at_istore_n C (lv' := [(2, .int (y2_21 &&& (63 : Int32))), (0, .ref (e_q E 30)), (1, .int x1), (3, .int y3_21), (4, .int y4_76), (5, .int y5_76), (6, .int y6_76), (7, .int y7_76)]) dX7_findBest_217 hn2 rfl ?_
                refine at_iinc C (v := (y3_21 + (1 : Int32))) (lv' := [(3, .int (y3_21 + (1 : Int32))), (2, .int (y2_21 &&& (63 : Int32))), (0, .ref (e_q E 30)), (1, .int x1), (4, .int y4_76), (5, .int y5_76), (6, .int y6_76), (7, .int y7_76)]) 3 dX7_findBest_218 rfl rfl hn3 rfl ?_
                refine at_goto C 21 dX7_findBest_221 (by decide) ?_
                exact at_sub [2, 3, 1, 0] rfl (ih21 (y2_21 &&& (63 : Int32)) (y3_21 + (1 : Int32)) (ac_sa s21 46 (upd (ac_ga s21 46) (y3_21).toNatClampNeg y5_76)) (mz_up hm21 (ac_ti1 b3_76 (iv_c (c := 1) (x := (1 : Int32)) (by decide)) (by decide) (by decide) (by decide)) (by decide) (iv_wk (iv_add b3_76 (iv_c (c := 1) (x := (1 : Int32)) (by decide)) (by decide) (by decide)) (by decide) (by decide) : iv 0 6 (y3_21 + (1 : Int32))).2) (show iv 0 63 (y2_21 &&& (63 : Int32)) from (iv_andl b2_21)) (iv_wk (iv_add b3_76 (iv_c (c := 1) (x := (1 : Int32)) (by decide)) (by decide) (by decide)) (by decide) (by decide) : iv 0 6 (y3_21 + (1 : Int32))) hG404 e0_21 e1_21 (fb_s hI.mB hI.mns (iv_wk b3_76 (by decide) (by decide) : iv 0 5 y3_21) (iv_wk b2_21 (by decide) (by decide) : iv 0 63 y2_21) e2_21 (fb_x e0_76 (Or.inr c402)) (Or.inl ⟨(Int32.not_le.mp c405), rfl⟩)))
            · have f408 : iv 0 0 y6_76 := (iv_eql (iv_c (c := 0) (x := (0 : Int32)) (by decide)) c402)
              refine at_aload_n C 0 dX7_findBest_86 rfl ?_
              refine gf_X7_57 C dX7_findBest_87 ?_
              refine at_iload C 7 dX7_findBest_90 rfl ?_
              refine at_iald C (c := 42) rfl (iv_in (n := 24) f401 (by decide) (by decide)) dX7_findBest_92 ?_
              refine at_iload_n C 3 dX7_findBest_93 rfl ?_
              refine at_icmp_ne C 129 dX7_findBest_94 (by decide) (fun c409 => ?_) (fun c409 => ?_)
              · refine at_iconst C (0 : Int32) dX7_findBest_129 (by decide) ?_
                refine at_istore C (lv' := [(8, .int (0 : Int32)), (0, .ref (e_q E 30)), (1, .int x1), (2, .int y2_21), (3, .int y3_21), (4, .int y4_76), (5, .int y5_76), (6, .int y6_76), (7, .int y7_76)]) dX7_findBest_130 hn8 rfl ?_
                refine at_iload C 0 dX7_findBest_132 rfl ?_
                refine at_if_eq C 178 dX7_findBest_134 (by decide) (fun c410 => ?_) (fun c410 => absurd (iv_xne (iv_c (c := 0) (x := (0 : Int32)) (by decide)) (iv_c (c := 0) (x := (0 : Int32)) (by decide))) c410)
                refine at_iload C 6 dX7_findBest_178 rfl ?_
                refine at_istore C (lv' := [(5, .int y5_76), (8, .int (0 : Int32)), (0, .ref (e_q E 30)), (1, .int x1), (2, .int y2_21), (3, .int y3_21), (4, .int y4_76), (6, .int y6_76), (7, .int y7_76)]) dX7_findBest_180 hn5 rfl ?_
                refine at_iinc C (v := (y7_76 + (-1 : Int32))) (lv' := [(7, .int (y7_76 + (-1 : Int32))), (5, .int y5_76), (8, .int (0 : Int32)), (0, .ref (e_q E 30)), (1, .int x1), (2, .int y2_21), (3, .int y3_21), (4, .int y4_76), (6, .int y6_76)]) 8 dX7_findBest_182 rfl rfl hn7 rfl ?_
                refine at_goto C 76 dX7_findBest_185 (by decide) ?_
                exact at_sub [3, 4, 5, 6, 7, 1, 8, 0] rfl (ih76 y4_76 y5_76 y6_76 (y7_76 + (-1 : Int32)) (mz_dn hm76 (mz_m1 f401 (by decide)) (iv_wk (iv_add f401 (iv_c (c := (-1)) (x := (-1 : Int32)) (by decide)) (by decide) (by decide)) (by decide) (by decide) : iv (-1) 23 (y7_76 + (-1 : Int32))).1) (show iv 0 5 y3_21 from b3_76) (show iv (-2147483648) 2147483647 y4_76 from b4_76) (show iv (-1) 23 y5_76 from b5_76) (iv_wk f408 (by decide) (by decide) : iv 0 1 y6_76) (iv_wk (iv_add f401 (iv_c (c := (-1)) (x := (-1 : Int32)) (by decide)) (by decide) (by decide)) (by decide) (by decide) : iv (-1) 23 (y7_76 + (-1 : Int32))) (fb_n hI.mS hI.mB g1 (iv_wk b3_76 (by decide) (by decide) : iv 0 5 y3_21) (iv_wk b2_21 (by decide) (by decide) : iv 0 63 y2_21) (iv_wk f401 (by decide) (by decide) : iv 0 23 y7_76) e0_21 e0_76 c402 (fun z => absurd z.1.1 (by have q := c409; rw [hG_21.2.2 42 rfl] at q; exact q))) (by have q := ti_add (iv_wk f401 (by decide) (by decide) : iv 0 23 y7_76) (iv_c (c := -1) (x := (-1 : Int32)) (by decide)) (by decide) (by decide); have q2 : (-1 : Int32).toInt = -1 := (by decide); have q3 := e1_76; omega))
              · have f411 : iv 0 5 (ac_ga s21 42 (y7_76).toNatClampNeg) := (iv_eql b3_76 c409)
                refine at_iload_n C 1 dX7_findBest_97 rfl ?_
                refine at_iload_n C 3 dX7_findBest_98 rfl ?_
                refine at_ishr C dX7_findBest_99 ?_
                refine at_iconst C (1 : Int32) dX7_findBest_100 (by decide) ?_
                refine at_iand C dX7_findBest_101 ?_
                refine at_iconst C (1 : Int32) dX7_findBest_102 (by decide) ?_
                refine at_icmp_ne C 129 dX7_findBest_103 (by decide) (fun c412 => ?_) (fun c412 => ?_)
                · have f413 : iv 0 0 ((x1 >>> (y3_21 &&& 31)) &&& (1 : Int32)) := (iv_neh (iv_andr (iv_wk (c := 0) (iv_c (c := 1) (x := (1 : Int32)) (by decide)) (by decide) (Int.le_refl _))) (by decide) c412)
                  refine at_iconst C (0 : Int32) dX7_findBest_129 (by decide) ?_
                  refine at_istore C (lv' := [(8, .int (0 : Int32)), (0, .ref (e_q E 30)), (1, .int x1), (2, .int y2_21), (3, .int y3_21), (4, .int y4_76), (5, .int y5_76), (6, .int y6_76), (7, .int y7_76)]) dX7_findBest_130 hn8 rfl ?_
                  refine at_iload C 0 dX7_findBest_132 rfl ?_
                  refine at_if_eq C 178 dX7_findBest_134 (by decide) (fun c414 => ?_) (fun c414 => absurd (iv_xne (iv_c (c := 0) (x := (0 : Int32)) (by decide)) (iv_c (c := 0) (x := (0 : Int32)) (by decide))) c414)
                  refine at_iload C 6 dX7_findBest_178 rfl ?_
                  refine at_istore C (lv' := [(5, .int y5_76), (8, .int (0 : Int32)), (0, .ref (e_q E 30)), (1, .int x1), (2, .int y2_21), (3, .int y3_21), (4, .int y4_76), (6, .int y6_76), (7, .int y7_76)]) dX7_findBest_180 hn5 rfl ?_
                  refine at_iinc C (v := (y7_76 + (-1 : Int32))) (lv' := [(7, .int (y7_76 + (-1 : Int32))), (5, .int y5_76), (8, .int (0 : Int32)), (0, .ref (e_q E 30)), (1, .int x1), (2, .int y2_21), (3, .int y3_21), (4, .int y4_76), (6, .int y6_76)]) 8 dX7_findBest_182 rfl rfl hn7 rfl ?_
                  refine at_goto C 76 dX7_findBest_185 (by decide) ?_
                  exact at_sub [3, 4, 5, 6, 7, 1, 8, 0] rfl (ih76 y4_76 y5_76 y6_76 (y7_76 + (-1 : Int32)) (mz_dn hm76 (mz_m1 f401 (by decide)) (iv_wk (iv_add f401 (iv_c (c := (-1)) (x := (-1 : Int32)) (by decide)) (by decide) (by decide)) (by decide) (by decide) : iv (-1) 23 (y7_76 + (-1 : Int32))).1) (show iv 0 5 y3_21 from b3_76) (show iv (-2147483648) 2147483647 y4_76 from b4_76) (show iv (-1) 23 y5_76 from b5_76) (iv_wk f408 (by decide) (by decide) : iv 0 1 y6_76) (iv_wk (iv_add f401 (iv_c (c := (-1)) (x := (-1 : Int32)) (by decide)) (by decide) (by decide)) (by decide) (by decide) : iv (-1) 23 (y7_76 + (-1 : Int32))) (fb_n hI.mS hI.mB g1 (iv_wk b3_76 (by decide) (by decide) : iv 0 5 y3_21) (iv_wk b2_21 (by decide) (by decide) : iv 0 63 y2_21) (iv_wk f401 (by decide) (by decide) : iv 0 23 y7_76) e0_21 e0_76 c402 (fun z => c412 z.1.2.1)) (by have q := ti_add (iv_wk f401 (by decide) (by decide) : iv 0 23 y7_76) (iv_c (c := -1) (x := (-1 : Int32)) (by decide)) (by decide) (by decide); have q2 : (-1 : Int32).toInt = -1 := (by decide); have q3 := e1_76; omega))
                · have f415 : iv 1 1 ((x1 >>> (y3_21 &&& 31)) &&& (1 : Int32)) := (iv_eql (iv_c (c := 1) (x := (1 : Int32)) (by decide)) c412)
                  refine at_aload_n C 0 dX7_findBest_106 rfl ?_
                  refine gf_X7_60 C dX7_findBest_107 ?_
                  refine at_iload C 7 dX7_findBest_110 rfl ?_
                  refine at_iald C (c := 43) rfl (iv_in (n := 24) f401 (by decide) (by decide)) dX7_findBest_112 ?_
                  refine at_iload_n C 2 dX7_findBest_113 rfl ?_
                  refine at_iand C dX7_findBest_114 ?_
                  refine at_aload_n C 0 dX7_findBest_115 rfl ?_
                  refine gf_X7_60 C dX7_findBest_116 ?_
                  refine at_iload C 7 dX7_findBest_119 rfl ?_
                  refine at_iald C (c := 43) rfl (iv_in (n := 24) f401 (by decide) (by decide)) dX7_findBest_121 ?_
                  refine at_icmp_ne C 129 dX7_findBest_122 (by decide) (fun c416 => ?_) (fun c416 => ?_)
                  · refine at_iconst C (0 : Int32) dX7_findBest_129 (by decide) ?_
                    refine at_istore C (lv' := [(8, .int (0 : Int32)), (0, .ref (e_q E 30)), (1, .int x1), (2, .int y2_21), (3, .int y3_21), (4, .int y4_76), (5, .int y5_76), (6, .int y6_76), (7, .int y7_76)]) dX7_findBest_130 hn8 rfl ?_
                    refine at_iload C 0 dX7_findBest_132 rfl ?_
                    refine at_if_eq C 178 dX7_findBest_134 (by decide) (fun c417 => ?_) (fun c417 => absurd (iv_xne (iv_c (c := 0) (x := (0 : Int32)) (by decide)) (iv_c (c := 0) (x := (0 : Int32)) (by decide))) c417)
                    refine at_iload C 6 dX7_findBest_178 rfl ?_
                    refine at_istore C (lv' := [(5, .int y5_76), (8, .int (0 : Int32)), (0, .ref (e_q E 30)), (1, .int x1), (2, .int y2_21), (3, .int y3_21), (4, .int y4_76), (6, .int y6_76), (7, .int y7_76)]) dX7_findBest_180 hn5 rfl ?_
                    refine at_iinc C (v := (y7_76 + (-1 : Int32))) (lv' := [(7, .int (y7_76 + (-1 : Int32))), (5, .int y5_76), (8, .int (0 : Int32)), (0, .ref (e_q E 30)), (1, .int x1), (2, .int y2_21), (3, .int y3_21), (4, .int y4_76), (6, .int y6_76)]) 8 dX7_findBest_182 rfl rfl hn7 rfl ?_
                    refine at_goto C 76 dX7_findBest_185 (by decide) ?_
                    exact at_sub [3, 4, 5, 6, 7, 1, 8, 0] rfl (ih76 y4_76 y5_76 y6_76 (y7_76 + (-1 : Int32)) (mz_dn hm76 (mz_m1 f401 (by decide)) (iv_wk (iv_add f401 (iv_c (c := (-1)) (x := (-1 : Int32)) (by decide)) (by decide) (by decide)) (by decide) (by decide) : iv (-1) 23 (y7_76 + (-1 : Int32))).1) (show iv 0 5 y3_21 from b3_76) (show iv (-2147483648) 2147483647 y4_76 from b4_76) (show iv (-1) 23 y5_76 from b5_76) (iv_wk f408 (by decide) (by decide) : iv 0 1 y6_76) (iv_wk (iv_add f401 (iv_c (c := (-1)) (x := (-1 : Int32)) (by decide)) (by decide) (by decide)) (by decide) (by decide) : iv (-1) 23 (y7_76 + (-1 : Int32))) (fb_n hI.mS hI.mB g1 (iv_wk b3_76 (by decide) (by decide) : iv 0 5 y3_21) (iv_wk b2_21 (by decide) (by decide) : iv 0 63 y2_21) (iv_wk f401 (by decide) (by decide) : iv 0 23 y7_76) e0_21 e0_76 c402 (fun z => absurd z.1.2.2 (by have q := c416; rw [hG_21.2.2 43 rfl] at q; exact q))) (by have q := ti_add (iv_wk f401 (by decide) (by decide) : iv 0 23 y7_76) (iv_c (c := -1) (x := (-1 : Int32)) (by decide)) (by decide) (by decide); have q2 : (-1 : Int32).toInt = -1 := (by decide); have q3 := e1_76; omega))
                  · refine at_iconst C (1 : Int32) dX7_findBest_125 (by decide) ?_
                    refine at_goto C 130 dX7_findBest_126 (by decide) ?_
                    refine at_istore C (lv' := [(8, .int (1 : Int32)), (0, .ref (e_q E 30)), (1, .int x1), (2, .int y2_21), (3, .int y3_21), (4, .int y4_76), (5, .int y5_76), (6, .int y6_76), (7, .int y7_76)]) dX7_findBest_130 hn8 rfl ?_
                    refine at_iload C 0 dX7_findBest_132 rfl ?_
                    refine at_if_eq C 178 dX7_findBest_134 (by decide) (fun c418 => absurd c418 (iv_xeq (iv_c (c := 1) (x := (1 : Int32)) (by decide)) (iv_c (c := 0) (x := (0 : Int32)) (by decide)) (by decide))) (fun c418 => ?_)
                    refine at_aload_n C 1 dX7_findBest_137 rfl ?_
                    refine gf_X7_63 C dX7_findBest_138 ?_
                    refine at_iload C 8 dX7_findBest_141 rfl ?_
                    refine at_iald C (c := 44) rfl (iv_in (n := 24) f401 (by decide) (by decide)) dX7_findBest_143 ?_
                    refine at_aload_n C 1 dX7_findBest_144 rfl ?_
                    refine gf_X7_72 C dX7_findBest_145 ?_
                    refine at_bipush C (64 : Int32) dX7_findBest_148 (by decide) ?_
                    refine at_iload_n C 4 dX7_findBest_150 rfl ?_
                    refine at_iconst C (1 : Int32) dX7_findBest_151 (by decide) ?_
                    refine at_iadd C dX7_findBest_152 ?_
                    refine at_imul C dX7_findBest_153 ?_
                    refine at_iload_n C 3 dX7_findBest_154 rfl ?_
                    refine at_aload_n C 1 dX7_findBest_155 rfl ?_
                    refine gf_X7_60 C dX7_findBest_156 ?_
                    refine at_iload C 8 dX7_findBest_159 rfl ?_
                    refine at_iald C (c := 43) rfl (iv_in (n := 24) f401 (by decide) (by decide)) dX7_findBest_161 ?_
                    refine at_iconst C (-1 : Int32) dX7_findBest_162 (by decide) ?_
                    refine at_ixor C dX7_findBest_163 ?_
                    refine at_iand C dX7_findBest_164 ?_
                    refine at_iadd C dX7_findBest_165 ?_
                    refine at_iald C (c := 47) rfl (iv_in (n := 448) (iv_add (iv_mul (iv_wk (c := 0) (iv_c (c := 64) (x := (64 : Int32)) (by decide)) (by decide) (Int.le_refl _)) (iv_wk (c := 0) (iv_add b3_76 (iv_c (c := 1) (x := (1 : Int32)) (by decide)) (by decide) (by decide)) (by decide) (Int.le_refl _)) (by decide)) (iv_andl b2_21) (by decide) (by decide)) (by decide) (by decide)) dX7_findBest_166 ?_
                    refine at_iadd C dX7_findBest_167 ?_
                    refine at_iload C 5 dX7_findBest_168 rfl ?_
                    refine at_icmp_ne C 178 dX7_findBest_170 (by decide) (fun c419 => ?_) (fun c419 => ?_)
                    · refine at_iload C 6 dX7_findBest_178 rfl ?_
                      refine at_istore C (lv' := [(5, .int y5_76), (8, .int (1 : Int32)), (0, .ref (e_q E 30)), (1, .int x1), (2, .int y2_21), (3, .int y3_21), (4, .int y4_76), (6, .int y6_76), (7, .int y7_76)]) dX7_findBest_180 hn5 rfl ?_
                      refine at_iinc C (v := (y7_76 + (-1 : Int32))) (lv' := [(7, .int (y7_76 + (-1 : Int32))), (5, .int y5_76), (8, .int (1 : Int32)), (0, .ref (e_q E 30)), (1, .int x1), (2, .int y2_21), (3, .int y3_21), (4, .int y4_76), (6, .int y6_76)]) 8 dX7_findBest_182 rfl rfl hn7 rfl ?_
                      refine at_goto C 76 dX7_findBest_185 (by decide) ?_
                      exact at_sub [3, 4, 5, 6, 7, 1, 8, 0] rfl (ih76 y4_76 y5_76 y6_76 (y7_76 + (-1 : Int32)) (mz_dn hm76 (mz_m1 f401 (by decide)) (iv_wk (iv_add f401 (iv_c (c := (-1)) (x := (-1 : Int32)) (by decide)) (by decide) (by decide)) (by decide) (by decide) : iv (-1) 23 (y7_76 + (-1 : Int32))).1) (show iv 0 5 y3_21 from b3_76) (show iv (-2147483648) 2147483647 y4_76 from b4_76) (show iv (-1) 23 y5_76 from b5_76) (iv_wk f408 (by decide) (by decide) : iv 0 1 y6_76) (iv_wk (iv_add f401 (iv_c (c := (-1)) (x := (-1 : Int32)) (by decide)) (by decide) (by decide)) (by decide) (by decide) : iv (-1) 23 (y7_76 + (-1 : Int32))) (fb_n hI.mS hI.mB g1 (iv_wk b3_76 (by decide) (by decide) : iv 0 5 y3_21) (iv_wk b2_21 (by decide) (by decide) : iv 0 63 y2_21) (iv_wk f401 (by decide) (by decide) : iv 0 23 y7_76) e0_21 e0_76 c402 (fun z => absurd z.2 (by have q := c419; rw [hG_21.2.2 43 rfl, hG_21.2.2 44 rfl] at q; exact q))) (by have q := ti_add (iv_wk f401 (by decide) (by decide) : iv 0 23 y7_76) (iv_c (c := -1) (x := (-1 : Int32)) (by decide)) (by decide) (by decide); have q2 : (-1 : Int32).toInt = -1 := (by decide); have q3 := e1_76; omega))
                    · refine at_iload C 8 dX7_findBest_173 rfl ?_
                      refine at_goto C 180 dX7_findBest_175 (by decide) ?_
                      refine at_istore C (lv' := [(5, .int y7_76), (8, .int (1 : Int32)), (0, .ref (e_q E 30)), (1, .int x1), (2, .int y2_21), (3, .int y3_21), (4, .int y4_76), (6, .int y6_76), (7, .int y7_76)]) dX7_findBest_180 hn5 rfl ?_
                      refine at_iinc C (v := (y7_76 + (-1 : Int32))) (lv' := [(7, .int (y7_76 + (-1 : Int32))), (5, .int y7_76), (8, .int (1 : Int32)), (0, .ref (e_q E 30)), (1, .int x1), (2, .int y2_21), (3, .int y3_21), (4, .int y4_76), (6, .int y6_76)]) 8 dX7_findBest_182 rfl rfl hn7 rfl ?_
                      refine at_goto C 76 dX7_findBest_185 (by decide) ?_
                      exact at_sub [3, 4, 5, 6, 7, 1, 8, 0] rfl (ih76 y4_76 y7_76 y6_76 (y7_76 + (-1 : Int32)) (mz_dn hm76 (mz_m1 f401 (by decide)) (iv_wk (iv_add f401 (iv_c (c := (-1)) (x := (-1 : Int32)) (by decide)) (by decide) (by decide)) (by decide) (by decide) : iv (-1) 23 (y7_76 + (-1 : Int32))).1) (show iv 0 5 y3_21 from b3_76) (show iv (-2147483648) 2147483647 y4_76 from b4_76) (iv_wk f401 (by decide) (by decide) : iv (-1) 23 y7_76) (iv_wk f408 (by decide) (by decide) : iv 0 1 y6_76) (iv_wk (iv_add f401 (iv_c (c := (-1)) (x := (-1 : Int32)) (by decide)) (by decide) (by decide)) (by decide) (by decide) : iv (-1) 23 (y7_76 + (-1 : Int32))) (fb_y hI.mS hI.mB hI.mns g1 (iv_wk b3_76 (by decide) (by decide) : iv 0 5 y3_21) (iv_wk b2_21 (by decide) (by decide) : iv 0 63 y2_21) (iv_wk f401 (by decide) (by decide) : iv 0 23 y7_76) e1_76 e0_21 e0_76 c402 ⟨⟨(by have q := c409; rw [hG_21.2.2 42 rfl] at q; exact q), c412, (by have q := c416; rw [hG_21.2.2 43 rfl] at q; exact q)⟩, (by have q := c419; rw [hG_21.2.2 43 rfl, hG_21.2.2 44 rfl] at q; exact q)⟩) (by have q := ti_add (iv_wk f401 (by decide) (by decide) : iv 0 23 y7_76) (iv_c (c := -1) (x := (-1 : Int32)) (by decide)) (by decide) (by decide); have q2 : (-1 : Int32).toInt = -1 := (by decide); have q3 := e1_76; omega))
      refine at_iload_n C 3 dX7_findBest_21 rfl ?_
      refine at_bipush C (6 : Int32) dX7_findBest_22 (by decide) ?_
      refine at_icmp_ge C 224 dX7_findBest_24 (by decide) (fun c420 => ?_) (fun c420 => ?_)
      · have f421 : iv 6 6 y3_21 := (iv_ler (iv_c (c := 6) (x := (6 : Int32)) (by decide)) b3_21 c420)
        exact hR _ _ _ dX7_findBest_224 ⟨hG_21, ⟨e1_21, fun k hk => e2_21.2 k (by have q := iv_le c420; have q2 := iv_cl (iv_wk f421 (by decide) (by decide) : iv 0 6 y3_21) (by decide); have q3 : (6 : Int32).toInt = 6 := (by decide); omega)⟩⟩
      · have f422 : iv 0 5 y3_21 := (iv_ltl b3_21 (iv_c (c := 6) (x := (6 : Int32)) (by decide)) (Int32.not_le.mp c420))
        refine at_aload_n C 0 dX7_findBest_27 rfl ?_
        refine gf_X7_72 C dX7_findBest_28 ?_
        refine at_bipush C (64 : Int32) dX7_findBest_31 (by decide) ?_
        refine at_iload_n C 3 dX7_findBest_33 rfl ?_
        refine at_imul C dX7_findBest_34 ?_
        refine at_iload_n C 2 dX7_findBest_35 rfl ?_
        refine at_iadd C dX7_findBest_36 ?_
        refine at_iald C (c := 47) rfl (iv_in (n := 448) (iv_add (iv_mul (iv_wk (c := 0) (iv_c (c := 64) (x := (64 : Int32)) (by decide)) (by decide) (Int.le_refl _)) f422 (by decide)) b2_21 (by decide) (by decide)) (by decide) (by decide)) dX7_findBest_37 ?_
        refine at_istore C (lv' := [(4, .int (ac_ga s21 47 ((((64 : Int32) * y3_21) + y2_21)).toNatClampNeg)), (0, .ref (e_q E 30)), (1, .int x1), (2, .int y2_21), (3, .int y3_21)]) dX7_findBest_38 hn4 rfl ?_
        refine at_iconst C (-1 : Int32) dX7_findBest_40 (by decide) ?_
        refine at_istore C (lv' := [(5, .int (-1 : Int32)), (4, .int (ac_ga s21 47 ((((64 : Int32) * y3_21) + y2_21)).toNatClampNeg)), (0, .ref (e_q E 30)), (1, .int x1), (2, .int y2_21), (3, .int y3_21)]) dX7_findBest_41 hn5 rfl ?_
        refine at_aload_n C 2 dX7_findBest_43 rfl ?_
        refine gf_X7_72 C dX7_findBest_44 ?_
        refine at_bipush C (64 : Int32) dX7_findBest_47 (by decide) ?_
        refine at_iload_n C 5 dX7_findBest_49 rfl ?_
        refine at_iconst C (1 : Int32) dX7_findBest_50 (by decide) ?_
        refine at_iadd C dX7_findBest_51 ?_
        refine at_imul C dX7_findBest_52 ?_
        refine at_iload_n C 4 dX7_findBest_53 rfl ?_
        refine at_iadd C dX7_findBest_54 ?_
        refine at_iald C (c := 47) rfl (iv_in (n := 448) (iv_add (iv_mul (iv_wk (c := 0) (iv_c (c := 64) (x := (64 : Int32)) (by decide)) (by decide) (Int.le_refl _)) (iv_wk (c := 0) (iv_add f422 (iv_c (c := 1) (x := (1 : Int32)) (by decide)) (by decide) (by decide)) (by decide) (Int.le_refl _)) (by decide)) b2_21 (by decide) (by decide)) (by decide) (by decide)) dX7_findBest_55 ?_
        refine at_iload C 1 dX7_findBest_56 rfl ?_
        refine at_icmp_ne C 65 dX7_findBest_58 (by decide) (fun c423 => ?_) (fun c423 => ?_)
        · refine at_iconst C (0 : Int32) dX7_findBest_65 (by decide) ?_
          refine at_istore C (lv' := [(6, .int (0 : Int32)), (5, .int (-1 : Int32)), (4, .int (ac_ga s21 47 ((((64 : Int32) * y3_21) + y2_21)).toNatClampNeg)), (0, .ref (e_q E 30)), (1, .int x1), (2, .int y2_21), (3, .int y3_21)]) dX7_findBest_66 hn6 rfl ?_
          refine at_aload_n C 3 dX7_findBest_68 rfl ?_
          refine gf_X7_191 C dX7_findBest_69 ?_
          refine at_iconst C (1 : Int32) dX7_findBest_72 (by decide) ?_
          refine at_isub C dX7_findBest_73 ?_
          refine at_istore C (lv' := [(7, .int ((ac_gi s21 26) - (1 : Int32))), (6, .int (0 : Int32)), (5, .int (-1 : Int32)), (4, .int (ac_ga s21 47 ((((64 : Int32) * y3_21) + y2_21)).toNatClampNeg)), (0, .ref (e_q E 30)), (1, .int x1), (2, .int y2_21), (3, .int y3_21)]) dX7_findBest_74 hn7 rfl ?_
          exact at_sub [4, 5, 6, 7, 3, 2, 1, 0] rfl (K76 _ (ac_ga s21 47 ((((64 : Int32) * y3_21) + y2_21)).toNatClampNeg) (-1 : Int32) (0 : Int32) ((ac_gi s21 26) - (1 : Int32)) (Nat.lt_succ_self _) (show iv 0 5 y3_21 from f422) (show iv (-2147483648) 2147483647 (ac_ga s21 47 ((((64 : Int32) * y3_21) + y2_21)).toNatClampNeg) from (iv_any (ac_ga s21 47 ((((64 : Int32) * y3_21) + y2_21)).toNatClampNeg))) (iv_wk (iv_c (c := (-1)) (x := (-1 : Int32)) (by decide)) (by decide) (by decide) : iv (-1) 23 (-1 : Int32)) (iv_wk (iv_c (c := 0) (x := (0 : Int32)) (by decide)) (by decide) (by decide) : iv 0 1 (0 : Int32)) (show iv (-1) 23 ((ac_gi s21 26) - (1 : Int32)) from (iv_sub (show iv 0 24 (ac_gi s21 26) from hG_21.1.1 26) (iv_c (c := 1) (x := (1 : Int32)) (by decide)) (by decide) (by decide))) (by rw [hG_21.2.1 26 rfl]; exact fb_0 hI.mns (iv_wk f422 (by decide) (by decide) : iv 0 5 y3_21) (iv_wk b2_21 (by decide) (by decide) : iv 0 63 y2_21) e0_21 c423) (by rw [hG_21.2.1 26 rfl]; have q := ti_sub hI.mns (iv_c (c := 1) (x := (1 : Int32)) (by decide)) (by decide) (by decide); have q2 : (1 : Int32).toInt = 1 := (by decide); omega))
        · refine at_iconst C (1 : Int32) dX7_findBest_61 (by decide) ?_
          refine at_goto C 66 dX7_findBest_62 (by decide) ?_
          refine at_istore C (lv' := [(6, .int (1 : Int32)), (5, .int (-1 : Int32)), (4, .int (ac_ga s21 47 ((((64 : Int32) * y3_21) + y2_21)).toNatClampNeg)), (0, .ref (e_q E 30)), (1, .int x1), (2, .int y2_21), (3, .int y3_21)]) dX7_findBest_66 hn6 rfl ?_
          refine at_aload_n C 3 dX7_findBest_68 rfl ?_
          refine gf_X7_191 C dX7_findBest_69 ?_
          refine at_iconst C (1 : Int32) dX7_findBest_72 (by decide) ?_
          refine at_isub C dX7_findBest_73 ?_
          refine at_istore C (lv' := [(7, .int ((ac_gi s21 26) - (1 : Int32))), (6, .int (1 : Int32)), (5, .int (-1 : Int32)), (4, .int (ac_ga s21 47 ((((64 : Int32) * y3_21) + y2_21)).toNatClampNeg)), (0, .ref (e_q E 30)), (1, .int x1), (2, .int y2_21), (3, .int y3_21)]) dX7_findBest_74 hn7 rfl ?_
          exact at_sub [4, 5, 6, 7, 3, 2, 1, 0] rfl (K76 _ (ac_ga s21 47 ((((64 : Int32) * y3_21) + y2_21)).toNatClampNeg) (-1 : Int32) (1 : Int32) ((ac_gi s21 26) - (1 : Int32)) (Nat.lt_succ_self _) (show iv 0 5 y3_21 from f422) (show iv (-2147483648) 2147483647 (ac_ga s21 47 ((((64 : Int32) * y3_21) + y2_21)).toNatClampNeg) from (iv_any (ac_ga s21 47 ((((64 : Int32) * y3_21) + y2_21)).toNatClampNeg))) (iv_wk (iv_c (c := (-1)) (x := (-1 : Int32)) (by decide)) (by decide) (by decide) : iv (-1) 23 (-1 : Int32)) (iv_wk (iv_c (c := 1) (x := (1 : Int32)) (by decide)) (by decide) (by decide) : iv 0 1 (1 : Int32)) (show iv (-1) 23 ((ac_gi s21 26) - (1 : Int32)) from (iv_sub (show iv 0 24 (ac_gi s21 26) from hG_21.1.1 26) (iv_c (c := 1) (x := (1 : Int32)) (by decide)) (by decide) (by decide))) (fb_1 (iv_wk f422 (by decide) (by decide) : iv 0 5 y3_21) (iv_wk b2_21 (by decide) (by decide) : iv 0 63 y2_21) e0_21 c423) (by rw [hG_21.2.1 26 rfl]; have q := ti_sub hI.mns (iv_c (c := 1) (x := (1 : Int32)) (by decide)) (by decide) (by decide); have q2 : (1 : Int32).toInt = 1 := (by decide); omega))
  refine at_aload_n C 0 dX7_findBest_0 rfl ?_
  refine at_iload_n C 1 dX7_findBest_1 rfl ?_
  refine at_Vv C (As := [.int x1]) (st := []) (b := 30) (ci := 7) (ct_X7_findWorths σ x1 hI (show iv 0 63 x1 from g1)) mb_X7_findWorths ml_X7_194 rfl rfl rfl (by decide) rfl (Nat.le_of_ble_eq_true rfl) dX7_findBest_2 ?_
  rintro u424 ⟨hg425, mo426⟩
  have hG427 := hG0.tr hg425
  refine at_aload_n C 0 dX7_findBest_5 rfl ?_
  refine at_aload_n C 0 dX7_findBest_6 rfl ?_
  refine gf_X7_72 C dX7_findBest_7 ?_
  refine at_bipush C (63 : Int32) dX7_findBest_10 (by decide) ?_
  refine at_iald C (c := 47) rfl (iv_in (n := 448) (iv_c (c := 63) (x := (63 : Int32)) (by decide)) (by decide) (by decide)) dX7_findBest_12 ?_
  refine pf_X7_197 C dX7_findBest_13 ?_
  have hG428 := Gd.si (k := 27) hG427 rfl (show iv (-2147483648) 2147483647 (ac_ga u424 47 ((63 : Int32)).toNatClampNeg) from (iv_any (ac_ga u424 47 ((63 : Int32)).toNatClampNeg)))
  refine at_bipush C (63 : Int32) dX7_findBest_16 (by decide) ?_
  refine at_istore_n C (lv' := [(2, .int (63 : Int32)), (0, .ref (e_q E 30)), (1, .int x1)]) dX7_findBest_18 hn2 rfl ?_
  refine at_iconst C (0 : Int32) dX7_findBest_19 (by decide) ?_
  refine at_istore_n C (lv' := [(3, .int (0 : Int32)), (2, .int (63 : Int32)), (0, .ref (e_q E 30)), (1, .int x1)]) dX7_findBest_20 hn3 rfl ?_
  exact at_sub [2, 3, 1, 0] rfl (K21 _ (63 : Int32) (0 : Int32) (ac_si u424 27 (ac_ga u424 47 ((63 : Int32)).toNatClampNeg)) (Nat.lt_succ_self _) (iv_wk (iv_c (c := 63) (x := (63 : Int32)) (by decide)) (by decide) (by decide) : iv 0 63 (63 : Int32)) (iv_wk (iv_c (c := 0) (x := (0 : Int32)) (by decide)) (by decide) (by decide) : iv 0 6 (0 : Int32)) hG428 mo426 (fb_63 mo426) fb_j0)
set_option maxHeartbeats 4000000 in
set_option maxRecDepth 100000 in
theorem ct_X7_best (σ : SS) (x1 : Int32) (x2 : Int32) (hI : Inv σ) : ConI yX7_best cX7_best 3 (some .int) 2 (some 30) [.int x1, .int x2] σ (fun r σ' => Gd σ σ' ∧ iv (-2147483648) 2147483647 r ∧ (bs_E (ac_gi σ 25) (fun G => WM σ G 6 63) (nM σ) x1 x2 r)) := by
  refine conI_of (by decide) (fun q => Nat.le_of_ble_eq_true rfl) (fun E C en hR => ?_)
  have hG0 : Gd σ σ := Gd.rf hI
  refine at_aload_n C 0 dX7_best_0 rfl ?_
  refine at_iload_n C 1 dX7_best_1 rfl ?_
  refine at_Vi C (As := [.int x1]) (st := []) (b := 30) (ci := 7) (ct_X7_noGroup σ x1 hI) mb_X7_noGroup ml_X7_200 rfl rfl rfl (by decide) rfl (Nat.le_of_ble_eq_true rfl) dX7_best_2 ?_
  rintro _ _ ⟨rfl, ⟨rfl, c204⟩ | ⟨rfl, c204⟩⟩
  · refine at_if_ne C 34 dX7_best_5 (by decide) (fun c206 => ?_) (fun c206 => absurd c206 (iv_xeq (iv_c (c := 1) (x := (1 : Int32)) (by decide)) (iv_c (c := 0) (x := (0 : Int32)) (by decide)) (by decide)))
    refine at_bipush C (-10 : Int32) dX7_best_34 (by decide) ?_
    exact hR _ _ _ _ dX7_best_36 ⟨hG0, (iv_wk (iv_c (c := (-10)) (x := (-10 : Int32)) (by decide)) (by decide) (by decide) : iv (-2147483648) 2147483647 (-10 : Int32)), (Or.inl ⟨fun z => absurd (isG_no hI.mn z.1) c204, rfl⟩)⟩
  · have f207 : iv 0 63 x1 := (iv_of3 (Classical.not_not.mp c204) (iv_shl1 (a := 0) (b := 6) (show iv 0 6 (ac_gi σ 25) from hI.1 25) (by decide)))
    refine at_if_ne C 34 dX7_best_5 (by decide) (fun c208 => absurd (iv_xne (iv_c (c := 0) (x := (0 : Int32)) (by decide)) (iv_c (c := 0) (x := (0 : Int32)) (by decide))) c208) (fun c208 => ?_)
    refine at_iload_n C 2 dX7_best_8 rfl ?_
    refine at_iconst C (-1 : Int32) dX7_best_9 (by decide) ?_
    refine at_icmp_lt C 34 dX7_best_10 (by decide) (fun c209 => ?_) (fun c209 => ?_)
    · have f210 : iv (-2147483648) (-2) x2 := (iv_ltl (iv_any x2) (iv_c (c := (-1)) (x := (-1 : Int32)) (by decide)) c209)
      refine at_bipush C (-10 : Int32) dX7_best_34 (by decide) ?_
      exact hR _ _ _ _ dX7_best_36 ⟨hG0, (iv_wk (iv_c (c := (-10)) (x := (-10 : Int32)) (by decide)) (by decide) (by decide) : iv (-2147483648) 2147483647 (-10 : Int32)), (Or.inl ⟨fun z => z.2.elim (fun q => by have q1 := iv_lt c209; rw [q] at q1; exact absurd q1 (by decide)) (fun q => by have q1 := iv_lt c209; have q2 := q.1.1; have q3 : (-1 : Int32).toInt = -1 := (by decide); omega), rfl⟩)⟩
    · have f211 : iv (-1) 2147483647 x2 := (iv_ler (iv_c (c := (-1)) (x := (-1 : Int32)) (by decide)) (iv_any x2) (Int32.not_lt.mp c209))
      refine at_iload_n C 2 dX7_best_13 rfl ?_
      refine at_iconst C (-1 : Int32) dX7_best_14 (by decide) ?_
      refine at_icmp_eq C 37 dX7_best_15 (by decide) (fun c212 => ?_) (fun c212 => ?_)
      · have f213 : iv (-1) (-1) x2 := (iv_eql (iv_c (c := (-1)) (x := (-1 : Int32)) (by decide)) c212)
        refine at_aload_n C 0 dX7_best_37 rfl ?_
        refine at_iload_n C 1 dX7_best_38 rfl ?_
        refine at_Vv C (As := [.int x1]) (st := []) (b := 30) (ci := 7) (ct_X7_findBest σ x1 hI (show iv 0 63 x1 from f207)) mb_X7_findBest ml_X7_203 rfl rfl rfl (by decide) rfl (Nat.le_of_ble_eq_true rfl) dX7_best_39 ?_
        rintro u214 ⟨hg215, mo216⟩
        have hG217 := hG0.tr hg215
        refine at_iload_n C 2 dX7_best_42 rfl ?_
        refine at_iconst C (-1 : Int32) dX7_best_43 (by decide) ?_
        refine at_icmp_ne C 54 dX7_best_44 (by decide) (fun c218 => absurd (iv_xne f213 (iv_c (c := (-1)) (x := (-1 : Int32)) (by decide))) c218) (fun c218 => ?_)
        refine at_aload_n C 0 dX7_best_47 rfl ?_
        refine gf_X7_197 C dX7_best_48 ?_
        refine at_goto C 60 dX7_best_51 (by decide) ?_
        exact hR _ _ _ _ dX7_best_60 ⟨hG217, (show iv (-2147483648) 2147483647 (ac_gi u214 27) from (iv_any (ac_gi u214 27))), (Or.inr ⟨⟨(isG_ys hI.mn (Classical.not_not.mp c204)), Or.inl c212⟩, Or.inl ⟨c212, mo216.1⟩⟩)⟩
      · have f219 : iv 0 2147483647 x2 := (iv_nel f211 (by decide) c212)
        refine at_aload_n C 0 dX7_best_18 rfl ?_
        refine at_iload_n C 2 dX7_best_19 rfl ?_
        refine at_Vi C (As := [.int x2]) (st := []) (b := 30) (ci := 7) (ct_X7_noHouse σ x2 hI) mb_X7_noHouse ml_X7_186 rfl rfl rfl (by decide) rfl (Nat.le_of_ble_eq_true rfl) dX7_best_20 ?_
        rintro _ _ ⟨rfl, ⟨rfl, c220⟩ | ⟨rfl, c220⟩⟩
        · refine at_if_ne C 34 dX7_best_23 (by decide) (fun c222 => ?_) (fun c222 => absurd c222 (iv_xeq (iv_c (c := 1) (x := (1 : Int32)) (by decide)) (iv_c (c := 0) (x := (0 : Int32)) (by decide)) (by decide)))
          refine at_bipush C (-10 : Int32) dX7_best_34 (by decide) ?_
          exact hR _ _ _ _ dX7_best_36 ⟨hG0, (iv_wk (iv_c (c := (-10)) (x := (-10 : Int32)) (by decide)) (by decide) (by decide) : iv (-2147483648) 2147483647 (-10 : Int32)), (Or.inl ⟨fun z => z.2.elim c212 (fun q => absurd q.1 c220), rfl⟩)⟩
        · have f223 : iv 0 5 x2 := (iv_of3 (Classical.not_not.mp c220) (show iv 0 6 (ac_gi σ 25) from hI.1 25))
          refine at_if_ne C 34 dX7_best_23 (by decide) (fun c224 => absurd (iv_xne (iv_c (c := 0) (x := (0 : Int32)) (by decide)) (iv_c (c := 0) (x := (0 : Int32)) (by decide))) c224) (fun c224 => ?_)
          refine at_iload_n C 1 dX7_best_26 rfl ?_
          refine at_iload_n C 2 dX7_best_27 rfl ?_
          refine at_ishr C dX7_best_28 ?_
          refine at_iconst C (1 : Int32) dX7_best_29 (by decide) ?_
          refine at_iand C dX7_best_30 ?_
          refine at_if_ne C 37 dX7_best_31 (by decide) (fun c225 => ?_) (fun c225 => ?_)
          · have f226 : iv 1 1 ((x1 >>> (x2 &&& 31)) &&& (1 : Int32)) := (iv_nel (iv_andr (iv_wk (c := 0) (iv_c (c := 1) (x := (1 : Int32)) (by decide)) (by decide) (Int.le_refl _))) (by decide) c225)
            refine at_aload_n C 0 dX7_best_37 rfl ?_
            refine at_iload_n C 1 dX7_best_38 rfl ?_
            refine at_Vv C (As := [.int x1]) (st := []) (b := 30) (ci := 7) (ct_X7_findBest σ x1 hI (show iv 0 63 x1 from f207)) mb_X7_findBest ml_X7_203 rfl rfl rfl (by decide) rfl (Nat.le_of_ble_eq_true rfl) dX7_best_39 ?_
            rintro u227 ⟨hg228, mo229⟩
            have hG230 := hG0.tr hg228
            refine at_iload_n C 2 dX7_best_42 rfl ?_
            refine at_iconst C (-1 : Int32) dX7_best_43 (by decide) ?_
            refine at_icmp_ne C 54 dX7_best_44 (by decide) (fun c231 => ?_) (fun c231 => absurd c231 (iv_xeq f223 (iv_c (c := (-1)) (x := (-1 : Int32)) (by decide)) (by decide)))
            refine at_aload_n C 0 dX7_best_54 rfl ?_
            refine gf_X7_69 C dX7_best_55 ?_
            refine at_iload_n C 2 dX7_best_58 rfl ?_
            refine at_iald C (c := 46) rfl (iv_in (n := 6) f223 (by decide) (by decide)) dX7_best_59 ?_
            exact hR _ _ _ _ dX7_best_60 ⟨hG230, (iv_wk (show iv (-1) 23 (ac_ga u227 46 (x2).toNatClampNeg) from hg228.1.2 46 _) (by decide) (by decide) : iv (-2147483648) 2147483647 (ac_ga u227 46 (x2).toNatClampNeg)), (Or.inr ⟨⟨(isG_ys hI.mn (Classical.not_not.mp c204)), Or.inr ⟨(Classical.not_not.mp c220), c225⟩⟩, Or.inr ⟨c212, mo229.2 _ (isH_6 hI.mn (Classical.not_not.mp c220))⟩⟩)⟩
          · have f232 : iv 0 0 ((x1 >>> (x2 &&& 31)) &&& (1 : Int32)) := (iv_eql (iv_c (c := 0) (x := (0 : Int32)) (by decide)) c225)
            refine at_bipush C (-10 : Int32) dX7_best_34 (by decide) ?_
            exact hR _ _ _ _ dX7_best_36 ⟨hG0, (iv_wk (iv_c (c := (-10)) (x := (-10 : Int32)) (by decide)) (by decide) (by decide) : iv (-2147483648) 2147483647 (-10 : Int32)), (Or.inl ⟨fun z => z.2.elim c212 (fun q => q.2 c225), rfl⟩)⟩
set_option maxHeartbeats 4000000 in
set_option maxRecDepth 100000 in
theorem ct_X7_takes (σ : SS) (x1 : Int32) (hI : Inv σ) : ConI yX7_takes cX7_takes 3 (some .int) 2 (some 30) [.int x1] σ (fun r σ' => Gd σ σ' ∧ iv (-2147483648) 2147483647 r ∧ (tk_A (fun G => WM σ G 6 63) (ac_gi σ 25) (nM σ (ah (ac_gi σ 25)).toNatClampNeg) (ac_ga σ 44) x1 r)) := by
  refine conI_of (by decide) (fun q => Nat.le_of_ble_eq_true rfl) (fun E C en hR => ?_)
  have hn2 : 2 < e_n E := by rw [en]; decide
  have hG0 : Gd σ σ := Gd.rf hI
  refine at_aload_n C 0 dX7_takes_0 rfl ?_
  refine at_iload_n C 1 dX7_takes_1 rfl ?_
  refine at_Vi C (As := [.int x1]) (st := []) (b := 30) (ci := 7) (ct_X7_noHouse σ x1 hI) mb_X7_noHouse ml_X7_186 rfl rfl rfl (by decide) rfl (Nat.le_of_ble_eq_true rfl) dX7_takes_2 ?_
  rintro _ _ ⟨rfl, ⟨rfl, c141⟩ | ⟨rfl, c141⟩⟩
  · refine at_if_eq C 11 dX7_takes_5 (by decide) (fun c143 => absurd c143 (iv_xeq (iv_c (c := 1) (x := (1 : Int32)) (by decide)) (iv_c (c := 0) (x := (0 : Int32)) (by decide)) (by decide))) (fun c143 => ?_)
    refine at_bipush C (-2 : Int32) dX7_takes_8 (by decide) ?_
    exact hR _ _ _ _ dX7_takes_10 ⟨hG0, (iv_wk (iv_c (c := (-2)) (x := (-2 : Int32)) (by decide)) (by decide) (by decide) : iv (-2147483648) 2147483647 (-2 : Int32)), (Or.inr ⟨c141, rfl⟩)⟩
  · have f144 : iv 0 5 x1 := (iv_of3 (Classical.not_not.mp c141) (show iv 0 6 (ac_gi σ 25) from hI.1 25))
    refine at_if_eq C 11 dX7_takes_5 (by decide) (fun c145 => ?_) (fun c145 => absurd (iv_xne (iv_c (c := 0) (x := (0 : Int32)) (by decide)) (iv_c (c := 0) (x := (0 : Int32)) (by decide))) c145)
    refine at_aload_n C 0 dX7_takes_11 rfl ?_
    refine at_aload_n C 0 dX7_takes_12 rfl ?_
    refine at_Vi C (As := []) (st := [.ref (e_q E 30)]) (b := 30) (ci := 7) (ct_X7_allHouses σ) mb_X7_allHouses ml_X7_206 rfl rfl rfl (by decide) rfl (Nat.le_of_ble_eq_true rfl) dX7_takes_13 ?_
    rintro _ _ ⟨rfl, rfl⟩
    refine at_iconst C (1 : Int32) dX7_takes_16 (by decide) ?_
    refine at_iload_n C 1 dX7_takes_17 rfl ?_
    refine at_ishl C dX7_takes_18 ?_
    refine at_iconst C (-1 : Int32) dX7_takes_19 (by decide) ?_
    refine at_ixor C dX7_takes_20 ?_
    refine at_iand C dX7_takes_21 ?_
    refine at_Vv C (As := [.int ((((1 : Int32) <<< ((ac_gi σ 25) &&& 31)) - (1 : Int32)) &&& (((1 : Int32) <<< (x1 &&& 31)) ^^^ (-1 : Int32)))]) (st := []) (b := 30) (ci := 7) (ct_X7_findBest σ ((((1 : Int32) <<< ((ac_gi σ 25) &&& 31)) - (1 : Int32)) &&& (((1 : Int32) <<< (x1 &&& 31)) ^^^ (-1 : Int32))) hI (show iv 0 63 ((((1 : Int32) <<< ((ac_gi σ 25) &&& 31)) - (1 : Int32)) &&& (((1 : Int32) <<< (x1 &&& 31)) ^^^ (-1 : Int32))) from (iv_andl (iv_sub (iv_shl1 (a := 0) (b := 6) (show iv 0 6 (ac_gi σ 25) from hI.1 25) (by decide)) (iv_c (c := 1) (x := (1 : Int32)) (by decide)) (by decide) (by decide))))) mb_X7_findBest ml_X7_203 rfl rfl rfl (by decide) rfl (Nat.le_of_ble_eq_true rfl) dX7_takes_22 ?_
    rintro u148 ⟨hg149, mo150⟩
    have hG151 := hG0.tr hg149
    refine at_aload_n C 0 dX7_takes_25 rfl ?_
    refine gf_X7_197 C dX7_takes_26 ?_
    refine at_istore_n C (lv' := [(2, .int (ac_gi u148 27)), (0, .ref (e_q E 30)), (1, .int x1)]) dX7_takes_29 hn2 rfl ?_
    refine at_aload_n C 1 dX7_takes_30 rfl ?_
    refine at_aload_n C 1 dX7_takes_31 rfl ?_
    refine at_Vi C (As := []) (st := [.ref (e_q E 30)]) (b := 30) (ci := 7) (ct_X7_allHouses u148) mb_X7_allHouses ml_X7_206 rfl rfl rfl (by decide) rfl (Nat.le_of_ble_eq_true rfl) dX7_takes_32 ?_
    rintro _ _ ⟨rfl, rfl⟩
    refine at_Vv C (As := [.int (((1 : Int32) <<< ((ac_gi u148 25) &&& 31)) - (1 : Int32))]) (st := []) (b := 30) (ci := 7) (ct_X7_findBest u148 (((1 : Int32) <<< ((ac_gi u148 25) &&& 31)) - (1 : Int32)) hg149.1 (show iv 0 63 (((1 : Int32) <<< ((ac_gi u148 25) &&& 31)) - (1 : Int32)) from (iv_sub (iv_shl1 (a := 0) (b := 6) (show iv 0 6 (ac_gi u148 25) from hg149.1.1 25) (by decide)) (iv_c (c := 1) (x := (1 : Int32)) (by decide)) (by decide) (by decide)))) mb_X7_findBest ml_X7_203 rfl rfl rfl (by decide) rfl (Nat.le_of_ble_eq_true rfl) dX7_takes_35 ?_
    rintro u154 ⟨hg155, mo156⟩
    have hG157 := hG151.tr hg155
    refine at_iload_n C 0 dX7_takes_38 rfl ?_
    refine at_aload_n C 1 dX7_takes_39 rfl ?_
    refine gf_X7_197 C dX7_takes_40 ?_
    refine at_aload_n C 1 dX7_takes_43 rfl ?_
    refine at_iload_n C 2 dX7_takes_44 rfl ?_
    refine at_Vi C (As := [.int x1]) (st := [.int (ac_gi u154 27), .int (ac_gi u148 27)]) (b := 30) (ci := 7) (ct_X7_wonBy u154 x1 hg155.1 (show iv 0 5 x1 from f144)) mb_X7_wonBy ml_X7_209 rfl rfl rfl (by decide) rfl (Nat.le_of_ble_eq_true rfl) dX7_takes_45 ?_
    rintro r158 _ ⟨rfl, f159, mo160⟩
    refine at_isub C dX7_takes_48 ?_
    refine at_isub C dX7_takes_49 ?_
    exact hR _ _ _ _ dX7_takes_50 ⟨hG157, (show iv (-2147483648) 2147483647 ((ac_gi u148 27) - ((ac_gi u154 27) - r158)) from (iv_any ((ac_gi u148 27) - ((ac_gi u154 27) - r158)))), (Or.inl ⟨(Classical.not_not.mp c141), mt_x hI hg149 hg155 (Classical.not_not.mp c141) mo150 mo156 mo160⟩)⟩
set_option maxHeartbeats 4000000 in
set_option maxRecDepth 100000 in
theorem ct_X7_isBlocking (σ : SS) (x1 : Int32) (hI : Inv σ) (g1 : iv 0 63 x1) : ConI yX7_isBlocking cX7_isBlocking 6 (some .boolean) 2 (some 30) [.int x1] σ (fun r σ' => Gd σ σ' ∧ (r = 0 ∨ r = 1) ∧ (∃ w : Nat → Int32, (∀ k : Nat, k < 6 → nM σ (ah (ac_gi σ 25)).toNatClampNeg k (w k)) ∧ (r = 1 ↔ bkM σ w (x1).toNatClampNeg))) := by
  refine conZ_of (by decide) (fun q => Nat.le_of_ble_eq_true rfl) (fun r u h => h.2.1) (fun E C en hR => ?_)
  have hn2 : 2 < e_n E := by rw [en]; decide
  have hn3 : 3 < e_n E := by rw [en]; decide
  have hn4 : 4 < e_n E := by rw [en]; decide
  have hn5 : 5 < e_n E := by rw [en]; decide
  have hG0 : Gd σ σ := Gd.rf hI
  have K23 : ∀ (n23 : Nat) (y2_23 : Int32) (y3_23 : Int32) (y4_23 : Int32) (s23 : SS), (6 - (y4_23).toInt).toNat < n23 → iv (-2147483648) 2147483647 y2_23 → iv (-2147483648) 2147483647 y3_23 → iv 0 6 y4_23 → Gd σ s23 → ((y2_23).toInt = WM σ (x1).toNatClampNeg 6 63) → (∀ k : Nat, k < 6 → nM σ (ah (ac_gi σ 25)).toNatClampNeg k (ac_ga s23 46 k)) → ((y3_23).toInt = kp (ac_ga s23 46) (ac_ga σ 41) (ac_ga σ 44) (x1).toNatClampNeg (y4_23).toNatClampNeg) → ((y4_23).toInt ≤ (ac_gi σ 25).toInt) → AT E 23 [(0, .ref (e_q E 30)), (1, .int x1), (2, .int y2_23), (3, .int y3_23), (4, .int y4_23)] [] s23 := by
    intro n23
    induction n23 with
    | zero => intro y2_23 y3_23 y4_23 s23 hm; exact absurd hm (Nat.not_lt_zero _)
    | succ n23 ih23 =>
      intro y2_23 y3_23 y4_23 s23 hm23 b2_23 b3_23 b4_23 hG_23 e0_23 e1_23 e2_23 e3_23
      refine at_iload C 4 dX7_isBlocking_23 rfl ?_
      refine at_aload_n C 0 dX7_isBlocking_25 rfl ?_
      refine gf_X7_183 C dX7_isBlocking_26 ?_
      refine at_icmp_ge C 109 dX7_isBlocking_29 (by decide) (fun c409 => ?_) (fun c409 => ?_)
      · refine at_iload_n C 2 dX7_isBlocking_109 rfl ?_
        refine at_iload_n C 3 dX7_isBlocking_110 rfl ?_
        refine at_icmp_le C 118 dX7_isBlocking_111 (by decide) (fun c410 => ?_) (fun c410 => ?_)
        · refine at_iconst C (0 : Int32) dX7_isBlocking_118 (by decide) ?_
          exact hR _ _ _ _ dX7_isBlocking_119 ⟨hG_23, Or.inl rfl, ⟨ac_ga s23 46, e1_23, wl_f e0_23 (mb_x hI hG_23 (iv_wk b4_23 (by decide) (by decide) : iv 0 6 y4_23) e3_23 e2_23 c409) c410⟩⟩
        · have f411 : iv (-2147483648) 2147483646 y3_23 := (iv_ltl b3_23 b2_23 (Int32.not_le.mp c410))
          have f412 : iv (-2147483647) 2147483647 y2_23 := (iv_ltr b3_23 b2_23 (Int32.not_le.mp c410))
          refine at_iconst C (1 : Int32) dX7_isBlocking_114 (by decide) ?_
          refine at_goto C 119 dX7_isBlocking_115 (by decide) ?_
          exact hR _ _ _ _ dX7_isBlocking_119 ⟨hG_23, Or.inr rfl, ⟨ac_ga s23 46, e1_23, wl_t e0_23 (mb_x hI hG_23 (iv_wk b4_23 (by decide) (by decide) : iv 0 6 y4_23) e3_23 e2_23 c409) (Int32.not_le.mp c410)⟩⟩
      · have f413 : iv 0 5 y4_23 := (iv_ltl b4_23 (show iv 0 6 (ac_gi s23 25) from hG_23.1.1 25) (Int32.not_le.mp c409))
        have f414 : iv 1 6 (ac_gi s23 25) := (iv_ltr b4_23 (show iv 0 6 (ac_gi s23 25) from hG_23.1.1 25) (Int32.not_le.mp c409))
        refine at_aload_n C 0 dX7_isBlocking_32 rfl ?_
        refine at_iload C 4 dX7_isBlocking_33 rfl ?_
        refine at_Vi C (As := [.int y4_23]) (st := []) (b := 30) (ci := 7) (ct_X7_wonBy s23 y4_23 hG_23.1 (show iv 0 5 y4_23 from f413)) mb_X7_wonBy ml_X7_209 rfl rfl rfl (by decide) rfl (Nat.le_of_ble_eq_true rfl) dX7_isBlocking_35 ?_
        rintro r415 _ ⟨rfl, f416, mo417⟩
        refine at_istore C (lv' := [(5, .int r415), (0, .ref (e_q E 30)), (1, .int x1), (2, .int y2_23), (3, .int y3_23), (4, .int y4_23)]) dX7_isBlocking_38 hn5 rfl ?_
        refine at_iload_n C 4 dX7_isBlocking_40 rfl ?_
        refine at_aload_n C 1 dX7_isBlocking_41 rfl ?_
        refine gf_X7_69 C dX7_isBlocking_42 ?_
        refine at_iload C 5 dX7_isBlocking_45 rfl ?_
        refine at_iald C (c := 46) rfl (iv_in (n := 6) f413 (by decide) (by decide)) dX7_isBlocking_47 ?_
        refine at_if_ge C 55 dX7_isBlocking_48 (by decide) (fun c418 => ?_) (fun c418 => ?_)
        · have f419 : iv 0 23 (ac_ga s23 46 (y4_23).toNatClampNeg) := (iv_ler (iv_c (c := 0) (x := (0 : Int32)) (by decide)) (show iv (-1) 23 (ac_ga s23 46 (y4_23).toNatClampNeg) from hG_23.1.2 46 _) c418)
          refine at_aload_n C 1 dX7_isBlocking_55 rfl ?_
          refine gf_X7_54 C dX7_isBlocking_56 ?_
          refine at_iload C 5 dX7_isBlocking_59 rfl ?_
          refine at_iald C (c := 41) rfl (iv_in (n := 6) f413 (by decide) (by decide)) dX7_isBlocking_61 ?_
          refine at_iadd C dX7_isBlocking_62 ?_
          refine at_istore_n C (lv' := [(3, .int (y3_23 + (ac_ga s23 41 (y4_23).toNatClampNeg))), (5, .int r415), (0, .ref (e_q E 30)), (1, .int x1), (2, .int y2_23), (4, .int y4_23)]) dX7_isBlocking_63 hn3 rfl ?_
          refine at_iload_n C 0 dX7_isBlocking_64 rfl ?_
          refine at_iload_n C 3 dX7_isBlocking_65 rfl ?_
          refine at_iload C 5 dX7_isBlocking_66 rfl ?_
          refine at_ishr C dX7_isBlocking_68 ?_
          refine at_iconst C (1 : Int32) dX7_isBlocking_69 (by decide) ?_
          refine at_iand C dX7_isBlocking_70 ?_
          refine at_iconst C (1 : Int32) dX7_isBlocking_71 (by decide) ?_
          refine at_icmp_ne C 100 dX7_isBlocking_72 (by decide) (fun c420 => ?_) (fun c420 => ?_)
          · have f421 : iv 0 0 ((x1 >>> (y4_23 &&& 31)) &&& (1 : Int32)) := (iv_neh (iv_andr (iv_wk (c := 0) (iv_c (c := 1) (x := (1 : Int32)) (by decide)) (by decide) (Int.le_refl _))) (by decide) c420)
            refine at_iconst C (0 : Int32) dX7_isBlocking_100 (by decide) ?_
            refine at_iadd C dX7_isBlocking_101 ?_
            refine at_istore_n C (lv' := [(3, .int ((y3_23 + (ac_ga s23 41 (y4_23).toNatClampNeg)) + (0 : Int32))), (5, .int r415), (0, .ref (e_q E 30)), (1, .int x1), (2, .int y2_23), (4, .int y4_23)]) dX7_isBlocking_102 hn3 rfl ?_
            refine at_iinc C (v := (y4_23 + (1 : Int32))) (lv' := [(4, .int (y4_23 + (1 : Int32))), (3, .int ((y3_23 + (ac_ga s23 41 (y4_23).toNatClampNeg)) + (0 : Int32))), (5, .int r415), (0, .ref (e_q E 30)), (1, .int x1), (2, .int y2_23)]) 5 dX7_isBlocking_103 rfl rfl hn4 rfl ?_
            refine at_goto C 23 dX7_isBlocking_106 (by decide) ?_
            exact at_sub [3, 4, 5, 1, 0] rfl (ih23 y2_23 ((y3_23 + (ac_ga s23 41 (y4_23).toNatClampNeg)) + (0 : Int32)) (y4_23 + (1 : Int32)) s23 (mz_up hm23 (ac_ti1 f413 (iv_c (c := 1) (x := (1 : Int32)) (by decide)) (by decide) (by decide) (by decide)) (by decide) (iv_wk (iv_add f413 (iv_c (c := 1) (x := (1 : Int32)) (by decide)) (by decide) (by decide)) (by decide) (by decide) : iv 0 6 (y4_23 + (1 : Int32))).2) (show iv (-2147483648) 2147483647 y2_23 from b2_23) (show iv (-2147483648) 2147483647 ((y3_23 + (ac_ga s23 41 (y4_23).toNatClampNeg)) + (0 : Int32)) from (iv_add (iv_any (y3_23 + (ac_ga s23 41 (y4_23).toNatClampNeg))) (iv_c (c := 0) (x := (0 : Int32)) (by decide)) (by decide) (by decide))) (iv_wk (iv_add f413 (iv_c (c := 1) (x := (1 : Int32)) (by decide)) (by decide) (by decide)) (by decide) (by decide) : iv 0 6 (y4_23 + (1 : Int32))) hG_23 e0_23 e1_23 (kl_mn (r := r415) hI.mP hI.mS g1 (iv_wk f413 (by decide) (by decide) : iv 0 5 y4_23) e2_23 (by have q := mo417; rw [hG_23.2.2 44 rfl] at q; exact q) (Or.inr ⟨c418, by rw [hG_23.2.2 41 rfl]⟩) (Or.inl c420)) (by have q := iv_lt (Int32.not_le.mp c409); rw [hG_23.2.1 25 rfl] at q; have q2 := ac_ti1 (iv_wk f413 (by decide) (by decide) : iv 0 5 y4_23) (iv_c (c := 1) (x := (1 : Int32)) (by decide)) (by decide) (by decide) (by decide); omega))
          · have f422 : iv 1 1 ((x1 >>> (y4_23 &&& 31)) &&& (1 : Int32)) := (iv_eql (iv_c (c := 1) (x := (1 : Int32)) (by decide)) c420)
            refine at_iload C 1 dX7_isBlocking_75 rfl ?_
            refine at_aload_n C 2 dX7_isBlocking_77 rfl ?_
            refine gf_X7_54 C dX7_isBlocking_78 ?_
            refine at_iload C 5 dX7_isBlocking_81 rfl ?_
            refine at_iald C (c := 41) rfl (iv_in (n := 6) f413 (by decide) (by decide)) dX7_isBlocking_83 ?_
            refine at_icmp_le C 100 dX7_isBlocking_84 (by decide) (fun c423 => ?_) (fun c423 => ?_)
            · have f424 : iv (-2147483648) 100000 r415 := (iv_lel f416 (show iv 0 100000 (ac_ga s23 41 (y4_23).toNatClampNeg) from hG_23.1.2 41 _) c423)
              refine at_iconst C (0 : Int32) dX7_isBlocking_100 (by decide) ?_
              refine at_iadd C dX7_isBlocking_101 ?_
              refine at_istore_n C (lv' := [(3, .int ((y3_23 + (ac_ga s23 41 (y4_23).toNatClampNeg)) + (0 : Int32))), (5, .int r415), (0, .ref (e_q E 30)), (1, .int x1), (2, .int y2_23), (4, .int y4_23)]) dX7_isBlocking_102 hn3 rfl ?_
              refine at_iinc C (v := (y4_23 + (1 : Int32))) (lv' := [(4, .int (y4_23 + (1 : Int32))), (3, .int ((y3_23 + (ac_ga s23 41 (y4_23).toNatClampNeg)) + (0 : Int32))), (5, .int r415), (0, .ref (e_q E 30)), (1, .int x1), (2, .int y2_23)]) 5 dX7_isBlocking_103 rfl rfl hn4 rfl ?_
              refine at_goto C 23 dX7_isBlocking_106 (by decide) ?_
              exact at_sub [3, 4, 5, 1, 0] rfl (ih23 y2_23 ((y3_23 + (ac_ga s23 41 (y4_23).toNatClampNeg)) + (0 : Int32)) (y4_23 + (1 : Int32)) s23 (mz_up hm23 (ac_ti1 f413 (iv_c (c := 1) (x := (1 : Int32)) (by decide)) (by decide) (by decide) (by decide)) (by decide) (iv_wk (iv_add f413 (iv_c (c := 1) (x := (1 : Int32)) (by decide)) (by decide) (by decide)) (by decide) (by decide) : iv 0 6 (y4_23 + (1 : Int32))).2) (show iv (-2147483648) 2147483647 y2_23 from b2_23) (show iv (-2147483648) 2147483647 ((y3_23 + (ac_ga s23 41 (y4_23).toNatClampNeg)) + (0 : Int32)) from (iv_add (iv_any (y3_23 + (ac_ga s23 41 (y4_23).toNatClampNeg))) (iv_c (c := 0) (x := (0 : Int32)) (by decide)) (by decide) (by decide))) (iv_wk (iv_add f413 (iv_c (c := 1) (x := (1 : Int32)) (by decide)) (by decide) (by decide)) (by decide) (by decide) : iv 0 6 (y4_23 + (1 : Int32))) hG_23 e0_23 e1_23 (kl_mn (r := r415) hI.mP hI.mS g1 (iv_wk f413 (by decide) (by decide) : iv 0 5 y4_23) e2_23 (by have q := mo417; rw [hG_23.2.2 44 rfl] at q; exact q) (Or.inr ⟨c418, by rw [hG_23.2.2 41 rfl]⟩) (Or.inr (by have q := c423; rw [hG_23.2.2 41 rfl] at q; exact q))) (by have q := iv_lt (Int32.not_le.mp c409); rw [hG_23.2.1 25 rfl] at q; have q2 := ac_ti1 (iv_wk f413 (by decide) (by decide) : iv 0 5 y4_23) (iv_c (c := 1) (x := (1 : Int32)) (by decide)) (by decide) (by decide) (by decide); omega))
            · have f425 : iv 1 2147483647 r415 := (iv_ltr (show iv 0 100000 (ac_ga s23 41 (y4_23).toNatClampNeg) from hG_23.1.2 41 _) f416 (Int32.not_le.mp c423))
              refine at_iload C 1 dX7_isBlocking_87 rfl ?_
              refine at_aload_n C 2 dX7_isBlocking_89 rfl ?_
              refine gf_X7_54 C dX7_isBlocking_90 ?_
              refine at_iload C 5 dX7_isBlocking_93 rfl ?_
              refine at_iald C (c := 41) rfl (iv_in (n := 6) f413 (by decide) (by decide)) dX7_isBlocking_95 ?_
              refine at_isub C dX7_isBlocking_96 ?_
              refine at_goto C 101 dX7_isBlocking_97 (by decide) ?_
              refine at_iadd C dX7_isBlocking_101 ?_
              refine at_istore_n C (lv' := [(3, .int ((y3_23 + (ac_ga s23 41 (y4_23).toNatClampNeg)) + (r415 - (ac_ga s23 41 (y4_23).toNatClampNeg)))), (5, .int r415), (0, .ref (e_q E 30)), (1, .int x1), (2, .int y2_23), (4, .int y4_23)]) dX7_isBlocking_102 hn3 rfl ?_
              refine at_iinc C (v := (y4_23 + (1 : Int32))) (lv' := [(4, .int (y4_23 + (1 : Int32))), (3, .int ((y3_23 + (ac_ga s23 41 (y4_23).toNatClampNeg)) + (r415 - (ac_ga s23 41 (y4_23).toNatClampNeg)))), (5, .int r415), (0, .ref (e_q E 30)), (1, .int x1), (2, .int y2_23)]) 5 dX7_isBlocking_103 rfl rfl hn4 rfl ?_
              refine at_goto C 23 dX7_isBlocking_106 (by decide) ?_
              exact at_sub [3, 4, 5, 1, 0] rfl (ih23 y2_23 ((y3_23 + (ac_ga s23 41 (y4_23).toNatClampNeg)) + (r415 - (ac_ga s23 41 (y4_23).toNatClampNeg))) (y4_23 + (1 : Int32)) s23 (mz_up hm23 (ac_ti1 f413 (iv_c (c := 1) (x := (1 : Int32)) (by decide)) (by decide) (by decide) (by decide)) (by decide) (iv_wk (iv_add f413 (iv_c (c := 1) (x := (1 : Int32)) (by decide)) (by decide) (by decide)) (by decide) (by decide) : iv 0 6 (y4_23 + (1 : Int32))).2) (show iv (-2147483648) 2147483647 y2_23 from b2_23) (show iv (-2147483648) 2147483647 ((y3_23 + (ac_ga s23 41 (y4_23).toNatClampNeg)) + (r415 - (ac_ga s23 41 (y4_23).toNatClampNeg))) from (iv_any ((y3_23 + (ac_ga s23 41 (y4_23).toNatClampNeg)) + (r415 - (ac_ga s23 41 (y4_23).toNatClampNeg))))) (iv_wk (iv_add f413 (iv_c (c := 1) (x := (1 : Int32)) (by decide)) (by decide) (by decide)) (by decide) (by decide) : iv 0 6 (y4_23 + (1 : Int32))) hG_23 e0_23 e1_23 (by have qq := kl_my (r := r415) hI.mP hI.mS g1 (iv_wk f413 (by decide) (by decide) : iv 0 5 y4_23) e2_23 (by have q := mo417; rw [hG_23.2.2 44 rfl] at q; exact q) (Or.inr ⟨c418, rfl⟩) c420 (by have q := (Int32.not_le.mp c423); rw [hG_23.2.2 41 rfl] at q; exact q); rw [← hG_23.2.2 41 rfl] at qq; rw [← hG_23.2.2 41 rfl]; exact qq) (by have q := iv_lt (Int32.not_le.mp c409); rw [hG_23.2.1 25 rfl] at q; have q2 := ac_ti1 (iv_wk f413 (by decide) (by decide) : iv 0 5 y4_23) (iv_c (c := 1) (x := (1 : Int32)) (by decide)) (by decide) (by decide) (by decide); omega))
        · have f426 : iv (-1) (-1) (ac_ga s23 46 (y4_23).toNatClampNeg) := (iv_ltl (show iv (-1) 23 (ac_ga s23 46 (y4_23).toNatClampNeg) from hG_23.1.2 46 _) (iv_c (c := 0) (x := (0 : Int32)) (by decide)) (Int32.not_le.mp c418))
          refine at_iconst C (0 : Int32) dX7_isBlocking_51 (by decide) ?_
          refine at_goto C 62 dX7_isBlocking_52 (by decide) ?_
          refine at_iadd C dX7_isBlocking_62 ?_
          refine at_istore_n C (lv' := [(3, .int (y3_23 + (0 : Int32))), (5, .int r415), (0, .ref (e_q E 30)), (1, .int x1), (2, .int y2_23), (4, .int y4_23)]) dX7_isBlocking_63 hn3 rfl ?_
          refine at_iload_n C 0 dX7_isBlocking_64 rfl ?_
          refine at_iload_n C 3 dX7_isBlocking_65 rfl ?_
          refine at_iload C 5 dX7_isBlocking_66 rfl ?_
          refine at_ishr C dX7_isBlocking_68 ?_
          refine at_iconst C (1 : Int32) dX7_isBlocking_69 (by decide) ?_
          refine at_iand C dX7_isBlocking_70 ?_
          refine at_iconst C (1 : Int32) dX7_isBlocking_71 (by decide) ?_
          refine at_icmp_ne C 100 dX7_isBlocking_72 (by decide) (fun c427 => ?_) (fun c427 => ?_)
          · have f428 : iv 0 0 ((x1 >>> (y4_23 &&& 31)) &&& (1 : Int32)) := (iv_neh (iv_andr (iv_wk (c := 0) (iv_c (c := 1) (x := (1 : Int32)) (by decide)) (by decide) (Int.le_refl _))) (by decide) c427)
            refine at_iconst C (0 : Int32) dX7_isBlocking_100 (by decide) ?_
            refine at_iadd C dX7_isBlocking_101 ?_
            refine at_istore_n C (lv' := [(3, .int ((y3_23 + (0 : Int32)) + (0 : Int32))), (5, .int r415), (0, .ref (e_q E 30)), (1, .int x1), (2, .int y2_23), (4, .int y4_23)]) dX7_isBlocking_102 hn3 rfl ?_
            refine at_iinc C (v := (y4_23 + (1 : Int32))) (lv' := [(4, .int (y4_23 + (1 : Int32))), (3, .int ((y3_23 + (0 : Int32)) + (0 : Int32))), (5, .int r415), (0, .ref (e_q E 30)), (1, .int x1), (2, .int y2_23)]) 5 dX7_isBlocking_103 rfl rfl hn4 rfl ?_
            refine at_goto C 23 dX7_isBlocking_106 (by decide) ?_
            exact at_sub [3, 4, 5, 1, 0] rfl (ih23 y2_23 ((y3_23 + (0 : Int32)) + (0 : Int32)) (y4_23 + (1 : Int32)) s23 (mz_up hm23 (ac_ti1 f413 (iv_c (c := 1) (x := (1 : Int32)) (by decide)) (by decide) (by decide) (by decide)) (by decide) (iv_wk (iv_add f413 (iv_c (c := 1) (x := (1 : Int32)) (by decide)) (by decide) (by decide)) (by decide) (by decide) : iv 0 6 (y4_23 + (1 : Int32))).2) (show iv (-2147483648) 2147483647 y2_23 from b2_23) (show iv (-2147483648) 2147483647 ((y3_23 + (0 : Int32)) + (0 : Int32)) from (iv_add (iv_add b3_23 (iv_c (c := 0) (x := (0 : Int32)) (by decide)) (by decide) (by decide)) (iv_c (c := 0) (x := (0 : Int32)) (by decide)) (by decide) (by decide))) (iv_wk (iv_add f413 (iv_c (c := 1) (x := (1 : Int32)) (by decide)) (by decide) (by decide)) (by decide) (by decide) : iv 0 6 (y4_23 + (1 : Int32))) hG_23 e0_23 e1_23 (kl_mn (r := r415) hI.mP hI.mS g1 (iv_wk f413 (by decide) (by decide) : iv 0 5 y4_23) e2_23 (by have q := mo417; rw [hG_23.2.2 44 rfl] at q; exact q) (Or.inl ⟨(Int32.not_le.mp c418), rfl⟩) (Or.inl c427)) (by have q := iv_lt (Int32.not_le.mp c409); rw [hG_23.2.1 25 rfl] at q; have q2 := ac_ti1 (iv_wk f413 (by decide) (by decide) : iv 0 5 y4_23) (iv_c (c := 1) (x := (1 : Int32)) (by decide)) (by decide) (by decide) (by decide); omega))
          · have f429 : iv 1 1 ((x1 >>> (y4_23 &&& 31)) &&& (1 : Int32)) := (iv_eql (iv_c (c := 1) (x := (1 : Int32)) (by decide)) c427)
            refine at_iload C 1 dX7_isBlocking_75 rfl ?_
            refine at_aload_n C 2 dX7_isBlocking_77 rfl ?_
            refine gf_X7_54 C dX7_isBlocking_78 ?_
            refine at_iload C 5 dX7_isBlocking_81 rfl ?_
            refine at_iald C (c := 41) rfl (iv_in (n := 6) f413 (by decide) (by decide)) dX7_isBlocking_83 ?_
            refine at_icmp_le C 100 dX7_isBlocking_84 (by decide) (fun c430 => ?_) (fun c430 => ?_)
            · have f431 : iv (-2147483648) 100000 r415 := (iv_lel f416 (show iv 0 100000 (ac_ga s23 41 (y4_23).toNatClampNeg) from hG_23.1.2 41 _) c430)
              refine at_iconst C (0 : Int32) dX7_isBlocking_100 (by decide) ?_
              refine at_iadd C dX7_isBlocking_101 ?_
              refine at_istore_n C (lv' := [(3, .int ((y3_23 + (0 : Int32)) + (0 : Int32))), (5, .int r415), (0, .ref (e_q E 30)), (1, .int x1), (2, .int y2_23), (4, .int y4_23)]) dX7_isBlocking_102 hn3 rfl ?_
              refine at_iinc C (v := (y4_23 + (1 : Int32))) (lv' := [(4, .int (y4_23 + (1 : Int32))), (3, .int ((y3_23 + (0 : Int32)) + (0 : Int32))), (5, .int r415), (0, .ref (e_q E 30)), (1, .int x1), (2, .int y2_23)]) 5 dX7_isBlocking_103 rfl rfl hn4 rfl ?_
              refine at_goto C 23 dX7_isBlocking_106 (by decide) ?_
              exact at_sub [3, 4, 5, 1, 0] rfl (ih23 y2_23 ((y3_23 + (0 : Int32)) + (0 : Int32)) (y4_23 + (1 : Int32)) s23 (mz_up hm23 (ac_ti1 f413 (iv_c (c := 1) (x := (1 : Int32)) (by decide)) (by decide) (by decide) (by decide)) (by decide) (iv_wk (iv_add f413 (iv_c (c := 1) (x := (1 : Int32)) (by decide)) (by decide) (by decide)) (by decide) (by decide) : iv 0 6 (y4_23 + (1 : Int32))).2) (show iv (-2147483648) 2147483647 y2_23 from b2_23) (show iv (-2147483648) 2147483647 ((y3_23 + (0 : Int32)) + (0 : Int32)) from (iv_add (iv_add b3_23 (iv_c (c := 0) (x := (0 : Int32)) (by decide)) (by decide) (by decide)) (iv_c (c := 0) (x := (0 : Int32)) (by decide)) (by decide) (by decide))) (iv_wk (iv_add f413 (iv_c (c := 1) (x := (1 : Int32)) (by decide)) (by decide) (by decide)) (by decide) (by decide) : iv 0 6 (y4_23 + (1 : Int32))) hG_23 e0_23 e1_23 (kl_mn (r := r415) hI.mP hI.mS g1 (iv_wk f413 (by decide) (by decide) : iv 0 5 y4_23) e2_23 (by have q := mo417; rw [hG_23.2.2 44 rfl] at q; exact q) (Or.inl ⟨(Int32.not_le.mp c418), rfl⟩) (Or.inr (by have q := c430; rw [hG_23.2.2 41 rfl] at q; exact q))) (by have q := iv_lt (Int32.not_le.mp c409); rw [hG_23.2.1 25 rfl] at q; have q2 := ac_ti1 (iv_wk f413 (by decide) (by decide) : iv 0 5 y4_23) (iv_c (c := 1) (x := (1 : Int32)) (by decide)) (by decide) (by decide) (by decide); omega))
            · have f432 : iv 1 2147483647 r415 := (iv_ltr (show iv 0 100000 (ac_ga s23 41 (y4_23).toNatClampNeg) from hG_23.1.2 41 _) f416 (Int32.not_le.mp c430))
              refine at_iload C 1 dX7_isBlocking_87 rfl ?_
              refine at_aload_n C 2 dX7_isBlocking_89 rfl ?_
              refine gf_X7_54 C dX7_isBlocking_90 ?_
              refine at_iload C 5 dX7_isBlocking_93 rfl ?_
              refine at_iald C (c := 41) rfl (iv_in (n := 6) f413 (by decide) (by decide)) dX7_isBlocking_95 ?_
              refine at_isub C dX7_isBlocking_96 ?_
              refine at_goto C 101 dX7_isBlocking_97 (by decide) ?_
              refine at_iadd C dX7_isBlocking_101 ?_
              refine at_istore_n C (lv' := [(3, .int ((y3_23 + (0 : Int32)) + (r415 - (ac_ga s23 41 (y4_23).toNatClampNeg)))), (5, .int r415), (0, .ref (e_q E 30)), (1, .int x1), (2, .int y2_23), (4, .int y4_23)]) dX7_isBlocking_102 hn3 rfl ?_
              refine at_iinc C (v := (y4_23 + (1 : Int32))) (lv' := [(4, .int (y4_23 + (1 : Int32))), (3, .int ((y3_23 + (0 : Int32)) + (r415 - (ac_ga s23 41 (y4_23).toNatClampNeg)))), (5, .int r415), (0, .ref (e_q E 30)), (1, .int x1), (2, .int y2_23)]) 5 dX7_isBlocking_103 rfl rfl hn4 rfl ?_
              refine at_goto C 23 dX7_isBlocking_106 (by decide) ?_
              exact at_sub [3, 4, 5, 1, 0] rfl (ih23 y2_23 ((y3_23 + (0 : Int32)) + (r415 - (ac_ga s23 41 (y4_23).toNatClampNeg))) (y4_23 + (1 : Int32)) s23 (mz_up hm23 (ac_ti1 f413 (iv_c (c := 1) (x := (1 : Int32)) (by decide)) (by decide) (by decide) (by decide)) (by decide) (iv_wk (iv_add f413 (iv_c (c := 1) (x := (1 : Int32)) (by decide)) (by decide) (by decide)) (by decide) (by decide) : iv 0 6 (y4_23 + (1 : Int32))).2) (show iv (-2147483648) 2147483647 y2_23 from b2_23) (show iv (-2147483648) 2147483647 ((y3_23 + (0 : Int32)) + (r415 - (ac_ga s23 41 (y4_23).toNatClampNeg))) from (iv_any ((y3_23 + (0 : Int32)) + (r415 - (ac_ga s23 41 (y4_23).toNatClampNeg))))) (iv_wk (iv_add f413 (iv_c (c := 1) (x := (1 : Int32)) (by decide)) (by decide) (by decide)) (by decide) (by decide) : iv 0 6 (y4_23 + (1 : Int32))) hG_23 e0_23 e1_23 (by have qq := kl_my (r := r415) hI.mP hI.mS g1 (iv_wk f413 (by decide) (by decide) : iv 0 5 y4_23) e2_23 (by have q := mo417; rw [hG_23.2.2 44 rfl] at q; exact q) (Or.inl ⟨(Int32.not_le.mp c418), rfl⟩) c427 (by have q := (Int32.not_le.mp c430); rw [hG_23.2.2 41 rfl] at q; exact q); rw [hG_23.2.2 41 rfl]; exact qq) (by have q := iv_lt (Int32.not_le.mp c409); rw [hG_23.2.1 25 rfl] at q; have q2 := ac_ti1 (iv_wk f413 (by decide) (by decide) : iv 0 5 y4_23) (iv_c (c := 1) (x := (1 : Int32)) (by decide)) (by decide) (by decide) (by decide); omega))
  refine at_aload_n C 0 dX7_isBlocking_0 rfl ?_
  refine at_iload_n C 1 dX7_isBlocking_1 rfl ?_
  refine at_Vv C (As := [.int x1]) (st := []) (b := 30) (ci := 7) (ct_X7_findBest σ x1 hI (show iv 0 63 x1 from g1)) mb_X7_findBest ml_X7_203 rfl rfl rfl (by decide) rfl (Nat.le_of_ble_eq_true rfl) dX7_isBlocking_2 ?_
  rintro u433 ⟨hg434, mo435⟩
  have hG436 := hG0.tr hg434
  refine at_aload_n C 0 dX7_isBlocking_5 rfl ?_
  refine gf_X7_197 C dX7_isBlocking_6 ?_
  refine at_istore_n C (lv' := [(2, .int (ac_gi u433 27)), (0, .ref (e_q E 30)), (1, .int x1)]) dX7_isBlocking_9 hn2 rfl ?_
  refine at_aload_n C 1 dX7_isBlocking_10 rfl ?_
  refine at_aload_n C 1 dX7_isBlocking_11 rfl ?_
  refine at_Vi C (As := []) (st := [.ref (e_q E 30)]) (b := 30) (ci := 7) (ct_X7_allHouses u433) mb_X7_allHouses ml_X7_206 rfl rfl rfl (by decide) rfl (Nat.le_of_ble_eq_true rfl) dX7_isBlocking_12 ?_
  rintro _ _ ⟨rfl, rfl⟩
  refine at_Vv C (As := [.int (((1 : Int32) <<< ((ac_gi u433 25) &&& 31)) - (1 : Int32))]) (st := []) (b := 30) (ci := 7) (ct_X7_findBest u433 (((1 : Int32) <<< ((ac_gi u433 25) &&& 31)) - (1 : Int32)) hg434.1 (show iv 0 63 (((1 : Int32) <<< ((ac_gi u433 25) &&& 31)) - (1 : Int32)) from (iv_sub (iv_shl1 (a := 0) (b := 6) (show iv 0 6 (ac_gi u433 25) from hg434.1.1 25) (by decide)) (iv_c (c := 1) (x := (1 : Int32)) (by decide)) (by decide) (by decide)))) mb_X7_findBest ml_X7_203 rfl rfl rfl (by decide) rfl (Nat.le_of_ble_eq_true rfl) dX7_isBlocking_15 ?_
  rintro u439 ⟨hg440, mo441⟩
  have hG442 := hG436.tr hg440
  refine at_iconst C (0 : Int32) dX7_isBlocking_18 (by decide) ?_
  refine at_istore_n C (lv' := [(3, .int (0 : Int32)), (2, .int (ac_gi u433 27)), (0, .ref (e_q E 30)), (1, .int x1)]) dX7_isBlocking_19 hn3 rfl ?_
  refine at_iconst C (0 : Int32) dX7_isBlocking_20 (by decide) ?_
  refine at_istore C (lv' := [(4, .int (0 : Int32)), (3, .int (0 : Int32)), (2, .int (ac_gi u433 27)), (0, .ref (e_q E 30)), (1, .int x1)]) dX7_isBlocking_21 hn4 rfl ?_
  exact at_sub [3, 4, 2, 1, 0] rfl (K23 _ (ac_gi u433 27) (0 : Int32) (0 : Int32) u439 (Nat.lt_succ_self _) (show iv (-2147483648) 2147483647 (ac_gi u433 27) from (iv_any (ac_gi u433 27))) (iv_wk (iv_c (c := 0) (x := (0 : Int32)) (by decide)) (by decide) (by decide) : iv (-2147483648) 2147483647 (0 : Int32)) (iv_wk (iv_c (c := 0) (x := (0 : Int32)) (by decide)) (by decide) (by decide) : iv 0 6 (0 : Int32)) hG442 mo435.1 (by have q := fbW_at hg434 mo441; rw [hg434.m.1.1] at q; exact q.2) kl_0 (by have q := hI.mn.1; have q2 : (0 : Int32).toInt = 0 := (by decide); omega))
set_option maxHeartbeats 4000000 in
set_option maxRecDepth 100000 in
theorem ct_X7_blocks (σ : SS) (x1 : Int32) (hI : Inv σ) : ConI yX7_blocks cX7_blocks 2 (some .int) 3 (some 30) [.int x1] σ (fun r σ' => Gd σ σ' ∧ iv (-2147483648) 2147483647 r ∧ (bl_A (bkM σ) (ac_gi σ 25) (nM σ (ah (ac_gi σ 25)).toNatClampNeg) x1 r)) := by
  refine conI_of (by decide) (fun q => Nat.le_of_ble_eq_true rfl) (fun E C en hR => ?_)
  have hG0 : Gd σ σ := Gd.rf hI
  refine at_aload_n C 0 dX7_blocks_0 rfl ?_
  refine at_iload_n C 1 dX7_blocks_1 rfl ?_
  refine at_Vi C (As := [.int x1]) (st := []) (b := 30) (ci := 7) (ct_X7_noGroup σ x1 hI) mb_X7_noGroup ml_X7_200 rfl rfl rfl (by decide) rfl (Nat.le_of_ble_eq_true rfl) dX7_blocks_2 ?_
  rintro _ _ ⟨rfl, ⟨rfl, c141⟩ | ⟨rfl, c141⟩⟩
  · refine at_if_eq C 13 dX7_blocks_5 (by decide) (fun c143 => absurd c143 (iv_xeq (iv_c (c := 1) (x := (1 : Int32)) (by decide)) (iv_c (c := 0) (x := (0 : Int32)) (by decide)) (by decide))) (fun c143 => ?_)
    refine at_bipush C (-2 : Int32) dX7_blocks_8 (by decide) ?_
    refine at_goto C 21 dX7_blocks_10 (by decide) ?_
    exact hR _ _ _ _ dX7_blocks_21 ⟨hG0, (iv_wk (iv_c (c := (-2)) (x := (-2 : Int32)) (by decide)) (by decide) (by decide) : iv (-2147483648) 2147483647 (-2 : Int32)), (Or.inr ⟨fun z => absurd (isG_no hI.mn z) c141, rfl⟩)⟩
  · have f144 : iv 0 63 x1 := (iv_of3 (Classical.not_not.mp c141) (iv_shl1 (a := 0) (b := 6) (show iv 0 6 (ac_gi σ 25) from hI.1 25) (by decide)))
    refine at_if_eq C 13 dX7_blocks_5 (by decide) (fun c145 => ?_) (fun c145 => absurd (iv_xne (iv_c (c := 0) (x := (0 : Int32)) (by decide)) (iv_c (c := 0) (x := (0 : Int32)) (by decide))) c145)
    refine at_aload_n C 0 dX7_blocks_13 rfl ?_
    refine at_iload_n C 1 dX7_blocks_14 rfl ?_
    refine at_Vi C (As := [.int x1]) (st := []) (b := 30) (ci := 7) (ct_X7_isBlocking σ x1 hI (show iv 0 63 x1 from f144)) mb_X7_isBlocking ml_X7_212 rfl rfl rfl (by decide) rfl (Nat.le_of_ble_eq_true rfl) dX7_blocks_15 ?_
    rintro _ u148 ⟨hg147, rfl | rfl, mo150⟩
    · have hG151 := hG0.tr hg147
      refine at_Si C (As := [.int (0 : Int32)]) (st := []) (ct_X7_one u148 (0 : Int32) hg147.1) mb_X7_one ml_X7_124 rfl (by decide) rfl (Nat.le_of_ble_eq_true rfl) dX7_blocks_18 ?_
      rintro _ _ (⟨c152, rfl, rfl⟩ | ⟨c154, rfl, rfl⟩)
      · show AT E 21 [(0, .ref (e_q E 30)), (1, .int x1)] [.int (0 : Int32)] u148
        exact hR _ _ _ _ dX7_blocks_21 ⟨hG151, (iv_wk (iv_c (c := 0) (x := (0 : Int32)) (by decide)) (by decide) (by decide) : iv (-2147483648) 2147483647 (0 : Int32)), (Or.inl ⟨isG_ys hI.mn (Classical.not_not.mp c141), mbl_x hI.mn mo150 (by decide)⟩)⟩
      · exact absurd (show (0 : Int32) = 0 from rfl) c154
    · have hG156 := hG0.tr hg147
      refine at_Si C (As := [.int (1 : Int32)]) (st := []) (ct_X7_one u148 (1 : Int32) hg147.1) mb_X7_one ml_X7_124 rfl (by decide) rfl (Nat.le_of_ble_eq_true rfl) dX7_blocks_18 ?_
      rintro _ _ (⟨c157, rfl, rfl⟩ | ⟨c159, rfl, rfl⟩)
      · exact absurd c157 (by decide)
      · show AT E 21 [(0, .ref (e_q E 30)), (1, .int x1)] [.int (1 : Int32)] u148
        exact hR _ _ _ _ dX7_blocks_21 ⟨hG156, (iv_wk (iv_c (c := 1) (x := (1 : Int32)) (by decide)) (by decide) (by decide) : iv (-2147483648) 2147483647 (1 : Int32)), (Or.inl ⟨isG_ys hI.mn (Classical.not_not.mp c141), mbl_x hI.mn mo150 (by decide)⟩)⟩
set_option maxHeartbeats 4000000 in
set_option maxRecDepth 100000 in
theorem ct_X7_alone (σ : SS) (hI : Inv σ) : ConI yX7_alone cX7_alone 2 (some .int) 3 (some 30) [] σ (fun r σ' => Gd σ σ' ∧ iv (-2147483648) 2147483647 r ∧ (al_E (bkM σ) (ac_gi σ 25) (nM σ (ah (ac_gi σ 25)).toNatClampNeg) r)) := by
  refine conI_of (by decide) (fun q => Nat.le_of_ble_eq_true rfl) (fun E C en hR => ?_)
  have hn1 : 1 < e_n E := by rw [en]; decide
  have hG0 : Gd σ σ := Gd.rf hI
  have K2 : ∀ (n2 : Nat) (y1_2 : Int32) (s2 : SS), (64 - (y1_2).toInt).toNat < n2 → iv 1 64 y1_2 → Gd σ s2 → (∀ w : Nat → Int32, mal_V σ w → al_I (bkM σ w) y1_2) → (y1_2 = 1 ∨ ∃ w, mal_V σ w) → AT E 2 [(0, .ref (e_q E 30)), (1, .int y1_2)] [] s2 := by
    intro n2
    induction n2 with
    | zero => intro y1_2 s2 hm; exact absurd hm (Nat.not_lt_zero _)
    | succ n2 ih2 =>
      intro y1_2 s2 hm2 b1_2 hG_2 e0_2 e1_2
      refine at_iload_n C 1 dX7_alone_2 rfl ?_
      refine at_aload_n C 0 dX7_alone_3 rfl ?_
      refine at_Vi C (As := []) (st := [.int y1_2]) (b := 30) (ci := 7) (ct_X7_allHouses s2) mb_X7_allHouses ml_X7_206 rfl rfl rfl (by decide) rfl (Nat.le_of_ble_eq_true rfl) dX7_alone_4 ?_
      rintro _ _ ⟨rfl, rfl⟩
      refine at_icmp_gt C 26 dX7_alone_7 (by decide) (fun c353 => ?_) (fun c353 => ?_)
      · refine at_iconst C (-1 : Int32) dX7_alone_26 (by decide) ?_
        exact hR _ _ _ _ dX7_alone_27 ⟨hG_2, (iv_wk (iv_c (c := (-1)) (x := (-1 : Int32)) (by decide)) (by decide) (by decide) : iv (-2147483648) 2147483647 (-1 : Int32)), (mal_z hI hG_2 (iv_wk b1_2 (by decide) (by decide) : iv 1 64 y1_2) c353 e0_2 e1_2)⟩
      · have f354 : iv 1 63 y1_2 := (iv_lel b1_2 (iv_sub (iv_shl1 (a := 0) (b := 6) (show iv 0 6 (ac_gi s2 25) from hG_2.1.1 25) (by decide)) (iv_c (c := 1) (x := (1 : Int32)) (by decide)) (by decide) (by decide)) (Int32.not_lt.mp c353))
        have f355 : iv 1 63 (((1 : Int32) <<< ((ac_gi s2 25) &&& 31)) - (1 : Int32)) := (iv_ler b1_2 (iv_sub (iv_shl1 (a := 0) (b := 6) (show iv 0 6 (ac_gi s2 25) from hG_2.1.1 25) (by decide)) (iv_c (c := 1) (x := (1 : Int32)) (by decide)) (by decide) (by decide)) (Int32.not_lt.mp c353))
        refine at_aload_n C 0 dX7_alone_10 rfl ?_
        refine at_iload_n C 1 dX7_alone_11 rfl ?_
        refine at_Vi C (As := [.int y1_2]) (st := []) (b := 30) (ci := 7) (ct_X7_isBlocking s2 y1_2 hG_2.1 (iv_wk f354 (by decide) (by decide) : iv 0 63 y1_2)) mb_X7_isBlocking ml_X7_212 rfl rfl rfl (by decide) rfl (Nat.le_of_ble_eq_true rfl) dX7_alone_12 ?_
        rintro _ u358 ⟨hg357, rfl | rfl, mo360⟩
        · have hG361 := hG_2.tr hg357
          refine at_if_eq C 20 dX7_alone_15 (by decide) (fun c362 => ?_) (fun c362 => absurd (iv_xne (iv_c (c := 0) (x := (0 : Int32)) (by decide)) (iv_c (c := 0) (x := (0 : Int32)) (by decide))) c362)
          refine at_iinc C (v := (y1_2 + (1 : Int32))) (lv' := [(1, .int (y1_2 + (1 : Int32))), (0, .ref (e_q E 30))]) 1 dX7_alone_20 rfl rfl hn1 rfl ?_
          refine at_goto C 2 dX7_alone_23 (by decide) ?_
          exact at_sub [1, 0] rfl (ih2 (y1_2 + (1 : Int32)) u358 (mz_up hm2 (ac_ti1 f354 (iv_c (c := 1) (x := (1 : Int32)) (by decide)) (by decide) (by decide) (by decide)) (by decide) (iv_wk (iv_add f354 (iv_c (c := 1) (x := (1 : Int32)) (by decide)) (by decide) (by decide)) (by decide) (by decide) : iv 1 64 (y1_2 + (1 : Int32))).2) (iv_wk (iv_add f354 (iv_c (c := 1) (x := (1 : Int32)) (by decide)) (by decide) (by decide)) (by decide) (by decide) : iv 1 64 (y1_2 + (1 : Int32))) hG361 (fun w hw => mal_s hI hG_2 (iv_wk f354 (by decide) (by decide) : iv 1 63 y1_2) (e0_2 w hw) hw mo360) (Or.inr (mal_x hI hG_2 mo360)))
        · have hG363 := hG_2.tr hg357
          refine at_if_eq C 20 dX7_alone_15 (by decide) (fun c364 => absurd c364 (iv_xeq (iv_c (c := 1) (x := (1 : Int32)) (by decide)) (iv_c (c := 0) (x := (0 : Int32)) (by decide)) (by decide))) (fun c364 => ?_)
          refine at_iload_n C 1 dX7_alone_18 rfl ?_
          exact hR _ _ _ _ dX7_alone_19 ⟨hG363, (iv_wk f354 (by decide) (by decide) : iv (-2147483648) 2147483647 y1_2), (mal_y hI hG_2 (iv_wk f354 (by decide) (by decide) : iv 1 63 y1_2) (Int32.not_lt.mp c353) e0_2 mo360)⟩
  refine at_iconst C (1 : Int32) dX7_alone_0 (by decide) ?_
  refine at_istore_n C (lv' := [(1, .int (1 : Int32)), (0, .ref (e_q E 30))]) dX7_alone_1 hn1 rfl ?_
  exact at_sub [1, 0] rfl (K2 _ (1 : Int32) σ (Nat.lt_succ_self _) (iv_wk (iv_c (c := 1) (x := (1 : Int32)) (by decide)) (by decide) (by decide) : iv 1 64 (1 : Int32)) hG0 (fun _ _ => al_0) (Or.inl rfl))
