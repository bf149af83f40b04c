set_option maxHeartbeats 4000000 in
set_option maxRecDepth 100000 in
theorem ct_X7_goDown (σ : SS) (x1 : Int32) (x2 : Int32) (hI : Inv σ) : ConV yX7_goDown cX7_goDown 8 none 3 (some 30) [.int x1, .int x2] σ (fun σ' => Gd σ σ') := by
  refine conV_of (by decide) (fun q => Nat.le_of_ble_eq_true rfl) (fun E C en hR => ?_)
  have hn3 : 3 < e_n E := by rw [en]; decide
  have hn4 : 4 < e_n E := by rw [en]; decide
  have hn5 : 5 < e_n E := by rw [en]; decide
  have hn6 : 6 < e_n E := by rw [en]; decide
  have hn7 : 7 < e_n E := by rw [en]; decide
  have hG0 : Gd σ σ := Gd.rf hI
  have K32 : ∀ (n32 : Nat) (y3_32 : Int32) (y4_32 : Int32) (y5_32 : Int32) (s32 : SS), ((y4_32).toInt + (y5_32).toInt).toNat < n32 → iv 0 1023 y3_32 → iv 0 1000 y4_32 → iv 0 1000 y5_32 → Gd σ s32 → (∀ j : Nat, tb y3_32 j = true → (j : Int) < (ac_gi σ 15).toInt) → (gd_S (ac_gi s32 22) (ac_gi s32 23) y3_32) → ((y4_32).toInt ≤ (y5_32).toInt) → ((y5_32).toInt = 0 → ((ac_gi s32 22) ||| (ac_gi s32 23)) = y3_32) → AT E 32 [(0, .ref (e_q E 30)), (1, .int x1), (2, .int x2), (3, .int y3_32), (4, .int y4_32), (5, .int y5_32)] [] s32 := by
    intro n32
    induction n32 with
    | zero => intro y3_32 y4_32 y5_32 s32 hm; exact absurd hm (Nat.not_lt_zero _)
    | succ n32 ih32 =>
      intro y3_32 y4_32 y5_32 s32 hm32 b3_32 b4_32 b5_32 hG_32 e0_32 e1_32 e2_32 e3_32
      have K48 : ∀ (n48 : Nat) (y6_48 : Int32) (s48 : SS), (10 - (y6_48).toInt).toNat < n48 → iv 0 10 y6_48 → Gd σ s48 → (gd_I (ac_gi s48 22) (ac_gi s48 23) y3_32 y6_48 y4_32) → (¬ (y5_32).toInt = 0) → AT E 48 [(0, .ref (e_q E 30)), (1, .int x1), (2, .int x2), (3, .int y3_32), (4, .int y4_32), (5, .int y5_32), (6, .int y6_48)] [] s48 := by
        intro n48
        induction n48 with
        | zero => intro y6_48 s48 hm; exact absurd hm (Nat.not_lt_zero _)
        | succ n48 ih48 =>
          intro y6_48 s48 hm48 b6_48 hG_48 e0_48 e1_48
          have K87 : ∀ (z0_87 : Int32) (z1_87 : Int32), iv 0 9 y6_48 → iv (-2147483648) 2147483647 z0_87 → iv 0 9 z1_87 → AT E 87 [(0, .ref (e_q E 30)), (1, .int x1), (2, .int x2), (3, .int y3_32), (4, .int y4_32), (5, .int y5_32), (6, .int y6_48)] [.int z0_87, .int z1_87, .ref (e_q E 39)] s48 := by
            intro z0_87 z1_87 b6_87 bz0_87 bz1_87
            refine at_iast C (c := 39) rfl (fun f => ac_ast_39 _ _ _ _ f) (iv_in (n := 10) bz1_87 (by decide) (by decide)) dX7_goDown_87 ?_
            have hG1088 := Gd.sa (c := 39) (i := (z1_87).toNatClampNeg) hG_48 rfl (show iv (-2147483648) 2147483647 z0_87 from bz0_87)
            refine at_iload_n C 3 dX7_goDown_88 rfl ?_
            refine at_iload C 6 dX7_goDown_89 rfl ?_
            refine at_ishr C dX7_goDown_91 ?_
            refine at_iconst C (1 : Int32) dX7_goDown_92 (by decide) ?_
            refine at_iand C dX7_goDown_93 ?_
            refine at_iconst C (1 : Int32) dX7_goDown_94 (by decide) ?_
            refine at_icmp_ne C 239 dX7_goDown_95 (by decide) (fun c1089 => ?_) (fun c1089 => ?_)
            · have f1090 : iv 0 0 ((y3_32 >>> (y6_48 &&& 31)) &&& (1 : Int32)) := (iv_neh (iv_andr (iv_wk (c := 0) (iv_c (c := 1) (x := (1 : Int32)) (by decide)) (by decide) (Int.le_refl _))) (by decide) c1089)
              refine at_iinc C (v := (y6_48 + (1 : Int32))) (lv' := [(6, .int (y6_48 + (1 : Int32))), (0, .ref (e_q E 30)), (1, .int x1), (2, .int x2), (3, .int y3_32), (4, .int y4_32), (5, .int y5_32)]) 6 dX7_goDown_239 rfl rfl hn6 rfl ?_
              refine at_goto C 48 dX7_goDown_242 (by decide) ?_
              exact at_sub [1, 2, 3, 4, 5, 6, 0] rfl (ih48 (y6_48 + (1 : Int32)) (ac_sa s48 39 (upd (ac_ga s48 39) (z1_87).toNatClampNeg z0_87)) (mz_up hm48 (ac_ti1 b6_87 (iv_c (c := 1) (x := (1 : Int32)) (by decide)) (by decide) (by decide) (by decide)) (by decide) (iv_wk (iv_add b6_87 (iv_c (c := 1) (x := (1 : Int32)) (by decide)) (by decide) (by decide)) (by decide) (by decide) : iv 0 10 (y6_48 + (1 : Int32))).2) (iv_wk (iv_add b6_87 (iv_c (c := 1) (x := (1 : Int32)) (by decide)) (by decide) (by decide)) (by decide) (by decide) : iv 0 10 (y6_48 + (1 : Int32))) hG1088 (gd_same (iv_wk b6_87 (by decide) (by decide) : iv 0 9 y6_48) e0_48 rfl rfl (Or.inl c1089)) e1_48)
            · have f1091 : iv 1 1 ((y3_32 >>> (y6_48 &&& 31)) &&& (1 : Int32)) := (iv_eql (iv_c (c := 1) (x := (1 : Int32)) (by decide)) c1089)
              refine at_aload_n C 0 dX7_goDown_98 rfl ?_
              refine gf_X7_157 C dX7_goDown_99 ?_
              show AT E 102 [(0, .ref (e_q E 30)), (1, .int x1), (2, .int x2), (3, .int y3_32), (4, .int y4_32), (5, .int y5_32), (6, .int y6_48)] [.int (ac_gi s48 22)] (ac_sa s48 39 (upd (ac_ga s48 39) (z1_87).toNatClampNeg z0_87))
              refine at_aload_n C 0 dX7_goDown_102 rfl ?_
              refine gf_X7_160 C dX7_goDown_103 ?_
              show AT E 106 [(0, .ref (e_q E 30)), (1, .int x1), (2, .int x2), (3, .int y3_32), (4, .int y4_32), (5, .int y5_32), (6, .int y6_48)] [.int (ac_gi s48 23), .int (ac_gi s48 22)] (ac_sa s48 39 (upd (ac_ga s48 39) (z1_87).toNatClampNeg z0_87))
              refine at_ior C dX7_goDown_106 ?_
              refine at_iload C 6 dX7_goDown_107 rfl ?_
              refine at_ishr C dX7_goDown_109 ?_
              refine at_iconst C (1 : Int32) dX7_goDown_110 (by decide) ?_
              refine at_iand C dX7_goDown_111 ?_
              refine at_if_ne C 239 dX7_goDown_112 (by decide) (fun c1092 => ?_) (fun c1092 => ?_)
              · have f1093 : iv 1 1 ((((ac_gi s48 22) ||| (ac_gi s48 23)) >>> (y6_48 &&& 31)) &&& (1 : Int32)) := (iv_nel (iv_andr (iv_wk (c := 0) (iv_c (c := 1) (x := (1 : Int32)) (by decide)) (by decide) (Int.le_refl _))) (by decide) c1092)
                refine at_iinc C (v := (y6_48 + (1 : Int32))) (lv' := [(6, .int (y6_48 + (1 : Int32))), (0, .ref (e_q E 30)), (1, .int x1), (2, .int x2), (3, .int y3_32), (4, .int y4_32), (5, .int y5_32)]) 6 dX7_goDown_239 rfl rfl hn6 rfl ?_
                refine at_goto C 48 dX7_goDown_242 (by decide) ?_
                exact at_sub [1, 2, 3, 4, 5, 6, 0] rfl (ih48 (y6_48 + (1 : Int32)) (ac_sa s48 39 (upd (ac_ga s48 39) (z1_87).toNatClampNeg z0_87)) (mz_up hm48 (ac_ti1 b6_87 (iv_c (c := 1) (x := (1 : Int32)) (by decide)) (by decide) (by decide) (by decide)) (by decide) (iv_wk (iv_add b6_87 (iv_c (c := 1) (x := (1 : Int32)) (by decide)) (by decide) (by decide)) (by decide) (by decide) : iv 0 10 (y6_48 + (1 : Int32))).2) (iv_wk (iv_add b6_87 (iv_c (c := 1) (x := (1 : Int32)) (by decide)) (by decide) (by decide)) (by decide) (by decide) : iv 0 10 (y6_48 + (1 : Int32))) hG1088 (gd_same (iv_wk b6_87 (by decide) (by decide) : iv 0 9 y6_48) e0_48 rfl rfl (Or.inr (Or.inl c1092))) e1_48)
              · have f1094 : iv 0 0 ((((ac_gi s48 22) ||| (ac_gi s48 23)) >>> (y6_48 &&& 31)) &&& (1 : Int32)) := (iv_eql (iv_c (c := 0) (x := (0 : Int32)) (by decide)) c1092)
                refine at_iload C 6 dX7_goDown_115 rfl ?_
                refine at_iload_n C 1 dX7_goDown_117 rfl ?_
                refine at_icmp_ne C 125 dX7_goDown_118 (by decide) (fun c1095 => ?_) (fun c1095 => ?_)
                · refine at_aload_n C 0 dX7_goDown_125 rfl ?_
                  refine gf_X7_36 C dX7_goDown_126 ?_
                  refine at_iload C 6 dX7_goDown_129 rfl ?_
                  refine at_iald C (c := 37) rfl (iv_in (n := 10) b6_87 (by decide) (by decide)) dX7_goDown_131 ?_
                  show AT E 132 [(0, .ref (e_q E 30)), (1, .int x1), (2, .int x2), (3, .int y3_32), (4, .int y4_32), (5, .int y5_32), (6, .int y6_48)] [.int (ac_ga s48 37 (y6_48).toNatClampNeg)] (ac_sa s48 39 (upd (ac_ga s48 39) (z1_87).toNatClampNeg z0_87))
                  refine at_istore C (lv' := [(7, .int (ac_ga s48 37 (y6_48).toNatClampNeg)), (0, .ref (e_q E 30)), (1, .int x1), (2, .int x2), (3, .int y3_32), (4, .int y4_32), (5, .int y5_32), (6, .int y6_48)]) dX7_goDown_132 hn7 rfl ?_
                  refine at_aload_n C 1 dX7_goDown_134 rfl ?_
                  refine at_aload_n C 1 dX7_goDown_135 rfl ?_
                  refine gf_X7_157 C dX7_goDown_136 ?_
                  show AT E 139 [(7, .int (ac_ga s48 37 (y6_48).toNatClampNeg)), (0, .ref (e_q E 30)), (1, .int x1), (2, .int x2), (3, .int y3_32), (4, .int y4_32), (5, .int y5_32), (6, .int y6_48)] [.int (ac_gi s48 22), .ref (e_q E 30)] (ac_sa s48 39 (upd (ac_ga s48 39) (z1_87).toNatClampNeg z0_87))
                  refine at_iconst C (1 : Int32) dX7_goDown_139 (by decide) ?_
                  refine at_iload C 7 dX7_goDown_140 rfl ?_
                  refine at_ishl C dX7_goDown_142 ?_
                  refine at_ior C dX7_goDown_143 ?_
                  refine at_Vi C (As := [.int ((ac_gi s48 22) ||| ((1 : Int32) <<< (y6_48 &&& 31)))]) (st := []) (b := 30) (ci := 7) (ct_X7_search (ac_sa s48 39 (upd (ac_ga s48 39) (z1_87).toNatClampNeg z0_87)) ((ac_gi s48 22) ||| ((1 : Int32) <<< (y6_48 &&& 31))) hG1088.1) mb_X7_search ml_X7_134 rfl rfl rfl (by decide) rfl (Nat.le_of_ble_eq_true rfl) dX7_goDown_144 ?_
                  rintro r1096 u1100 ⟨hg1101, f1097, fr1098, fr1099⟩
                  have hG1102 := hG1088.tr hg1101
                  refine at_iconst C (1 : Int32) dX7_goDown_147 (by decide) ?_
                  refine at_icmp_eq C 195 dX7_goDown_148 (by decide) (fun c1103 => ?_) (fun c1103 => ?_)
                  · have f1104 : iv 1 1 r1096 := (iv_eql (iv_c (c := 1) (x := (1 : Int32)) (by decide)) c1103)
                    refine at_iload C 5 dX7_goDown_195 rfl ?_
                    refine at_aload_n C 1 dX7_goDown_197 rfl ?_
                    refine gf_X7_39 C dX7_goDown_198 ?_
                    refine at_iload C 7 dX7_goDown_201 rfl ?_
                    refine at_iald C (c := 38) rfl (iv_in (n := 10) b6_87 (by decide) (by decide)) dX7_goDown_203 ?_
                    refine at_imul C dX7_goDown_204 ?_
                    refine at_iload C 0 dX7_goDown_205 rfl ?_
                    refine at_icmp_lt C 215 dX7_goDown_207 (by decide) (fun c1105 => ?_) (fun c1105 => ?_)
                    · have f1106 : iv (-2147483648) 2147483646 (y4_32 * (ac_ga u1100 38 (y6_48).toNatClampNeg)) := (iv_ltl (iv_any (y4_32 * (ac_ga u1100 38 (y6_48).toNatClampNeg))) (iv_any (ac_ga s48 37 (y6_48).toNatClampNeg)) c1105)
                      have f1107 : iv (-2147483647) 2147483647 (ac_ga s48 37 (y6_48).toNatClampNeg) := (iv_ltr (iv_any (y4_32 * (ac_ga u1100 38 (y6_48).toNatClampNeg))) (iv_any (ac_ga s48 37 (y6_48).toNatClampNeg)) c1105)
                      refine at_aload_n C 1 dX7_goDown_215 rfl ?_
                      refine at_dup C dX7_goDown_216 rfl ?_
                      refine gf_X7_157 C dX7_goDown_217 ?_
                      refine at_iconst C (1 : Int32) dX7_goDown_220 (by decide) ?_
                      refine at_iload C 7 dX7_goDown_221 rfl ?_
                      refine at_ishl C dX7_goDown_223 ?_
                      refine at_ior C dX7_goDown_224 ?_
                      refine pf_X7_157 C dX7_goDown_225 ?_
                      have hG1108 := Gd.si (k := 22) hG1102 rfl (show iv 0 1023 ((ac_gi u1100 22) ||| ((1 : Int32) <<< (y6_48 &&& 31))) from (iv_or 10 (show iv 0 1023 (ac_gi u1100 22) from hg1101.1.1 22) (iv_wk (c := 0) (iv_shl1 (a := 0) (b := 9) b6_87 (by decide)) (by decide) (Int.le_refl _)) (by decide) (by decide) (by decide)))
                      refine at_aload_n C 1 dX7_goDown_228 rfl ?_
                      refine gf_X7_51 C dX7_goDown_229 ?_
                      refine at_iload C 7 dX7_goDown_232 rfl ?_
                      refine at_aload_n C 1 dX7_goDown_234 rfl ?_
                      refine gf_X7_163 C dX7_goDown_235 ?_
                      show AT E 238 [(7, .int (ac_ga s48 37 (y6_48).toNatClampNeg)), (0, .ref (e_q E 30)), (1, .int x1), (2, .int x2), (3, .int y3_32), (4, .int y4_32), (5, .int y5_32), (6, .int y6_48)] [.int (ac_gi u1100 24), .int y6_48, .ref (e_q E 40)] (ac_si u1100 22 ((ac_gi u1100 22) ||| ((1 : Int32) <<< (y6_48 &&& 31))))
                      refine at_iast C (c := 40) rfl (fun f => ac_ast_40 _ _ _ _ f) (iv_in (n := 10) b6_87 (by decide) (by decide)) dX7_goDown_238 ?_
                      have hG1109 := Gd.sa (c := 40) (i := (y6_48).toNatClampNeg) hG1108 rfl (show iv (-2147483648) 2147483647 (ac_gi u1100 24) from (iv_any (ac_gi u1100 24)))
                      refine at_iinc C (v := (y6_48 + (1 : Int32))) (lv' := [(6, .int (y6_48 + (1 : Int32))), (7, .int (ac_ga s48 37 (y6_48).toNatClampNeg)), (0, .ref (e_q E 30)), (1, .int x1), (2, .int x2), (3, .int y3_32), (4, .int y4_32), (5, .int y5_32)]) 7 dX7_goDown_239 rfl rfl hn6 rfl ?_
                      refine at_goto C 48 dX7_goDown_242 (by decide) ?_
                      exact at_sub [2, 3, 4, 5, 6, 7, 0] rfl (ih48 (y6_48 + (1 : Int32)) (ac_sa (ac_si u1100 22 ((ac_gi u1100 22) ||| ((1 : Int32) <<< (y6_48 &&& 31)))) 40 (upd (ac_ga (ac_si u1100 22 ((ac_gi u1100 22) ||| ((1 : Int32) <<< (y6_48 &&& 31)))) 40) (y6_48).toNatClampNeg (ac_gi u1100 24))) (mz_up hm48 (ac_ti1 b6_87 (iv_c (c := 1) (x := (1 : Int32)) (by decide)) (by decide) (by decide) (by decide)) (by decide) (iv_wk (iv_add b6_87 (iv_c (c := 1) (x := (1 : Int32)) (by decide)) (by decide) (by decide)) (by decide) (by decide) : iv 0 10 (y6_48 + (1 : Int32))).2) (iv_wk (iv_add b6_87 (iv_c (c := 1) (x := (1 : Int32)) (by decide)) (by decide) (by decide)) (by decide) (by decide) : iv 0 10 (y6_48 + (1 : Int32))) hG1109 (gd_bk (iv_wk b6_87 (by decide) (by decide) : iv 0 9 y6_48) e0_48 fr1098 fr1099 c1089) e1_48)
                    · refine at_iload C 5 dX7_goDown_210 rfl ?_
                      refine at_if_ne C 239 dX7_goDown_212 (by decide) (fun c1110 => ?_) (fun c1110 => ?_)
                      · have f1111 : iv 1 1000 y4_32 := (iv_nel b4_32 (by decide) c1110)
                        refine at_iinc C (v := (y6_48 + (1 : Int32))) (lv' := [(6, .int (y6_48 + (1 : Int32))), (7, .int (ac_ga s48 37 (y6_48).toNatClampNeg)), (0, .ref (e_q E 30)), (1, .int x1), (2, .int x2), (3, .int y3_32), (4, .int y4_32), (5, .int y5_32)]) 7 dX7_goDown_239 rfl rfl hn6 rfl ?_
                        refine at_goto C 48 dX7_goDown_242 (by decide) ?_
                        exact at_sub [2, 3, 4, 5, 6, 7, 0] rfl (ih48 (y6_48 + (1 : Int32)) u1100 (mz_up hm48 (ac_ti1 b6_87 (iv_c (c := 1) (x := (1 : Int32)) (by decide)) (by decide) (by decide) (by decide)) (by decide) (iv_wk (iv_add b6_87 (iv_c (c := 1) (x := (1 : Int32)) (by decide)) (by decide) (by decide)) (by decide) (by decide) : iv 0 10 (y6_48 + (1 : Int32))).2) (iv_wk (iv_add b6_87 (iv_c (c := 1) (x := (1 : Int32)) (by decide)) (by decide) (by decide)) (by decide) (by decide) : iv 0 10 (y6_48 + (1 : Int32))) hG1102 (gd_same (iv_wk b6_87 (by decide) (by decide) : iv 0 9 y6_48) e0_48 fr1098 fr1099 (Or.inr (Or.inr c1110))) e1_48)
                      · have f1112 : iv 0 0 y4_32 := (iv_eql (iv_c (c := 0) (x := (0 : Int32)) (by decide)) c1110)
                        refine at_aload_n C 1 dX7_goDown_215 rfl ?_
                        refine at_dup C dX7_goDown_216 rfl ?_
                        refine gf_X7_157 C dX7_goDown_217 ?_
                        refine at_iconst C (1 : Int32) dX7_goDown_220 (by decide) ?_
                        refine at_iload C 7 dX7_goDown_221 rfl ?_
                        refine at_ishl C dX7_goDown_223 ?_
                        refine at_ior C dX7_goDown_224 ?_
                        refine pf_X7_157 C dX7_goDown_225 ?_
                        have hG1113 := Gd.si (k := 22) hG1102 rfl (show iv 0 1023 ((ac_gi u1100 22) ||| ((1 : Int32) <<< (y6_48 &&& 31))) from (iv_or 10 (show iv 0 1023 (ac_gi u1100 22) from hg1101.1.1 22) (iv_wk (c := 0) (iv_shl1 (a := 0) (b := 9) b6_87 (by decide)) (by decide) (Int.le_refl _)) (by decide) (by decide) (by decide)))
                        refine at_aload_n C 1 dX7_goDown_228 rfl ?_
                        refine gf_X7_51 C dX7_goDown_229 ?_
                        refine at_iload C 7 dX7_goDown_232 rfl ?_
                        refine at_aload_n C 1 dX7_goDown_234 rfl ?_
                        refine gf_X7_163 C dX7_goDown_235 ?_
                        show AT E 238 [(7, .int (ac_ga s48 37 (y6_48).toNatClampNeg)), (0, .ref (e_q E 30)), (1, .int x1), (2, .int x2), (3, .int y3_32), (4, .int y4_32), (5, .int y5_32), (6, .int y6_48)] [.int (ac_gi u1100 24), .int y6_48, .ref (e_q E 40)] (ac_si u1100 22 ((ac_gi u1100 22) ||| ((1 : Int32) <<< (y6_48 &&& 31))))
                        refine at_iast C (c := 40) rfl (fun f => ac_ast_40 _ _ _ _ f) (iv_in (n := 10) b6_87 (by decide) (by decide)) dX7_goDown_238 ?_
                        have hG1114 := Gd.sa (c := 40) (i := (y6_48).toNatClampNeg) hG1113 rfl (show iv (-2147483648) 2147483647 (ac_gi u1100 24) from (iv_any (ac_gi u1100 24)))
                        refine at_iinc C (v := (y6_48 + (1 : Int32))) (lv' := [(6, .int (y6_48 + (1 : Int32))), (7, .int (ac_ga s48 37 (y6_48).toNatClampNeg)), (0, .ref (e_q E 30)), (1, .int x1), (2, .int x2), (3, .int y3_32), (4, .int y4_32), (5, .int y5_32)]) 7 dX7_goDown_239 rfl rfl hn6 rfl ?_
                        refine at_goto C 48 dX7_goDown_242 (by decide) ?_
                        exact at_sub [2, 3, 4, 5, 6, 7, 0] rfl (ih48 (y6_48 + (1 : Int32)) (ac_sa (ac_si u1100 22 ((ac_gi u1100 22) ||| ((1 : Int32) <<< (y6_48 &&& 31)))) 40 (upd (ac_ga (ac_si u1100 22 ((ac_gi u1100 22) ||| ((1 : Int32) <<< (y6_48 &&& 31)))) 40) (y6_48).toNatClampNeg (ac_gi u1100 24))) (mz_up hm48 (ac_ti1 b6_87 (iv_c (c := 1) (x := (1 : Int32)) (by decide)) (by decide) (by decide) (by decide)) (by decide) (iv_wk (iv_add b6_87 (iv_c (c := 1) (x := (1 : Int32)) (by decide)) (by decide) (by decide)) (by decide) (by decide) : iv 0 10 (y6_48 + (1 : Int32))).2) (iv_wk (iv_add b6_87 (iv_c (c := 1) (x := (1 : Int32)) (by decide)) (by decide) (by decide)) (by decide) (by decide) : iv 0 10 (y6_48 + (1 : Int32))) hG1114 (gd_bk (iv_wk b6_87 (by decide) (by decide) : iv 0 9 y6_48) e0_48 fr1098 fr1099 c1089) e1_48)
                  · have f1115 : iv (-5) 0 r1096 := (iv_neh f1097 (by decide) c1103)
                    refine at_aload_n C 1 dX7_goDown_151 rfl ?_
                    refine at_dup C dX7_goDown_152 rfl ?_
                    refine gf_X7_160 C dX7_goDown_153 ?_
                    refine at_iconst C (1 : Int32) dX7_goDown_156 (by decide) ?_
                    refine at_iload C 7 dX7_goDown_157 rfl ?_
                    refine at_ishl C dX7_goDown_159 ?_
                    refine at_ior C dX7_goDown_160 ?_
                    refine pf_X7_160 C dX7_goDown_161 ?_
                    have hG1116 := Gd.si (k := 23) hG1102 rfl (show iv 0 1023 ((ac_gi u1100 23) ||| ((1 : Int32) <<< (y6_48 &&& 31))) from (iv_or 10 (show iv 0 1023 (ac_gi u1100 23) from hg1101.1.1 23) (iv_wk (c := 0) (iv_shl1 (a := 0) (b := 9) b6_87 (by decide)) (by decide) (Int.le_refl _)) (by decide) (by decide) (by decide)))
                    refine at_aload_n C 1 dX7_goDown_164 rfl ?_
                    refine gf_X7_48 C dX7_goDown_165 ?_
                    refine at_iload C 7 dX7_goDown_168 rfl ?_
                    refine at_iload C 6 dX7_goDown_170 rfl ?_
                    refine at_aload_n C 1 dX7_goDown_172 rfl ?_
                    refine gf_X7_39 C dX7_goDown_173 ?_
                    refine at_iload C 7 dX7_goDown_176 rfl ?_
                    refine at_iald C (c := 38) rfl (iv_in (n := 10) b6_87 (by decide) (by decide)) dX7_goDown_178 ?_
                    show AT E 179 [(7, .int (ac_ga s48 37 (y6_48).toNatClampNeg)), (0, .ref (e_q E 30)), (1, .int x1), (2, .int x2), (3, .int y3_32), (4, .int y4_32), (5, .int y5_32), (6, .int y6_48)] [.int (ac_ga u1100 38 (y6_48).toNatClampNeg), .int y5_32, .int y6_48, .ref (e_q E 39)] (ac_si u1100 23 ((ac_gi u1100 23) ||| ((1 : Int32) <<< (y6_48 &&& 31))))
                    refine at_imul C dX7_goDown_179 ?_
                    refine at_iast C (c := 39) rfl (fun f => ac_ast_39 _ _ _ _ f) (iv_in (n := 10) b6_87 (by decide) (by decide)) dX7_goDown_180 ?_
                    have hG1117 := Gd.sa (c := 39) (i := (y6_48).toNatClampNeg) hG1116 rfl (show iv (-2147483648) 2147483647 (y5_32 * (ac_ga u1100 38 (y6_48).toNatClampNeg)) from (iv_any (y5_32 * (ac_ga u1100 38 (y6_48).toNatClampNeg))))
                    refine at_aload_n C 1 dX7_goDown_181 rfl ?_
                    refine gf_X7_51 C dX7_goDown_182 ?_
                    refine at_iload C 7 dX7_goDown_185 rfl ?_
                    refine at_aload_n C 1 dX7_goDown_187 rfl ?_
                    refine gf_X7_163 C dX7_goDown_188 ?_
                    show AT E 191 [(7, .int (ac_ga s48 37 (y6_48).toNatClampNeg)), (0, .ref (e_q E 30)), (1, .int x1), (2, .int x2), (3, .int y3_32), (4, .int y4_32), (5, .int y5_32), (6, .int y6_48)] [.int (ac_gi u1100 24), .int y6_48, .ref (e_q E 40)] (ac_sa (ac_si u1100 23 ((ac_gi u1100 23) ||| ((1 : Int32) <<< (y6_48 &&& 31)))) 39 (upd (ac_ga (ac_si u1100 23 ((ac_gi u1100 23) ||| ((1 : Int32) <<< (y6_48 &&& 31)))) 39) (y6_48).toNatClampNeg (y5_32 * (ac_ga u1100 38 (y6_48).toNatClampNeg))))
                    refine at_iast C (c := 40) rfl (fun f => ac_ast_40 _ _ _ _ f) (iv_in (n := 10) b6_87 (by decide) (by decide)) dX7_goDown_191 ?_
                    have hG1118 := Gd.sa (c := 40) (i := (y6_48).toNatClampNeg) hG1117 rfl (show iv (-2147483648) 2147483647 (ac_gi u1100 24) from (iv_any (ac_gi u1100 24)))
                    refine at_goto C 239 dX7_goDown_192 (by decide) ?_
                    refine at_iinc C (v := (y6_48 + (1 : Int32))) (lv' := [(6, .int (y6_48 + (1 : Int32))), (7, .int (ac_ga s48 37 (y6_48).toNatClampNeg)), (0, .ref (e_q E 30)), (1, .int x1), (2, .int x2), (3, .int y3_32), (4, .int y4_32), (5, .int y5_32)]) 7 dX7_goDown_239 rfl rfl hn6 rfl ?_
                    refine at_goto C 48 dX7_goDown_242 (by decide) ?_
                    exact at_sub [2, 3, 4, 5, 6, 7, 0] rfl (ih48 (y6_48 + (1 : Int32)) (ac_sa (ac_sa (ac_si u1100 23 ((ac_gi u1100 23) ||| ((1 : Int32) <<< (y6_48 &&& 31)))) 39 (upd (ac_ga (ac_si u1100 23 ((ac_gi u1100 23) ||| ((1 : Int32) <<< (y6_48 &&& 31)))) 39) (y6_48).toNatClampNeg (y5_32 * (ac_ga u1100 38 (y6_48).toNatClampNeg)))) 40 (upd (ac_ga (ac_sa (ac_si u1100 23 ((ac_gi u1100 23) ||| ((1 : Int32) <<< (y6_48 &&& 31)))) 39 (upd (ac_ga (ac_si u1100 23 ((ac_gi u1100 23) ||| ((1 : Int32) <<< (y6_48 &&& 31)))) 39) (y6_48).toNatClampNeg (y5_32 * (ac_ga u1100 38 (y6_48).toNatClampNeg)))) 40) (y6_48).toNatClampNeg (ac_gi u1100 24))) (mz_up hm48 (ac_ti1 b6_87 (iv_c (c := 1) (x := (1 : Int32)) (by decide)) (by decide) (by decide) (by decide)) (by decide) (iv_wk (iv_add b6_87 (iv_c (c := 1) (x := (1 : Int32)) (by decide)) (by decide) (by decide)) (by decide) (by decide) : iv 0 10 (y6_48 + (1 : Int32))).2) (iv_wk (iv_add b6_87 (iv_c (c := 1) (x := (1 : Int32)) (by decide)) (by decide) (by decide)) (by decide) (by decide) : iv 0 10 (y6_48 + (1 : Int32))) hG1118 (gd_fr (iv_wk b6_87 (by decide) (by decide) : iv 0 9 y6_48) e0_48 fr1098 fr1099 c1089) e1_48)
                · have f1119 : iv 0 9 x1 := (iv_eqr b6_87 c1095)
                  refine at_iload_n C 2 dX7_goDown_121 rfl ?_
                  refine at_goto C 132 dX7_goDown_122 (by decide) ?_
                  refine at_istore C (lv' := [(7, .int x2), (0, .ref (e_q E 30)), (1, .int x1), (2, .int x2), (3, .int y3_32), (4, .int y4_32), (5, .int y5_32), (6, .int y6_48)]) dX7_goDown_132 hn7 rfl ?_
                  refine at_aload_n C 1 dX7_goDown_134 rfl ?_
                  refine at_aload_n C 1 dX7_goDown_135 rfl ?_
                  refine gf_X7_157 C dX7_goDown_136 ?_
                  show AT E 139 [(7, .int x2), (0, .ref (e_q E 30)), (1, .int x1), (2, .int x2), (3, .int y3_32), (4, .int y4_32), (5, .int y5_32), (6, .int y6_48)] [.int (ac_gi s48 22), .ref (e_q E 30)] (ac_sa s48 39 (upd (ac_ga s48 39) (z1_87).toNatClampNeg z0_87))
                  refine at_iconst C (1 : Int32) dX7_goDown_139 (by decide) ?_
                  refine at_iload C 7 dX7_goDown_140 rfl ?_
                  refine at_ishl C dX7_goDown_142 ?_
                  refine at_ior C dX7_goDown_143 ?_
                  refine at_Vi C (As := [.int ((ac_gi s48 22) ||| ((1 : Int32) <<< (y6_48 &&& 31)))]) (st := []) (b := 30) (ci := 7) (ct_X7_search (ac_sa s48 39 (upd (ac_ga s48 39) (z1_87).toNatClampNeg z0_87)) ((ac_gi s48 22) ||| ((1 : Int32) <<< (y6_48 &&& 31))) hG1088.1) mb_X7_search ml_X7_134 rfl rfl rfl (by decide) rfl (Nat.le_of_ble_eq_true rfl) dX7_goDown_144 ?_
                  rintro r1120 u1124 ⟨hg1125, f1121, fr1122, fr1123⟩
                  have hG1126 := hG1088.tr hg1125
                  refine at_iconst C (1 : Int32) dX7_goDown_147 (by decide) ?_
                  refine at_icmp_eq C 195 dX7_goDown_148 (by decide) (fun c1127 => ?_) (fun c1127 => ?_)
                  · have f1128 : iv 1 1 r1120 := (iv_eql (iv_c (c := 1) (x := (1 : Int32)) (by decide)) c1127)
                    refine at_iload C 5 dX7_goDown_195 rfl ?_
                    refine at_aload_n C 1 dX7_goDown_197 rfl ?_
                    refine gf_X7_39 C dX7_goDown_198 ?_
                    refine at_iload C 7 dX7_goDown_201 rfl ?_
                    refine at_iald C (c := 38) rfl (iv_in (n := 10) b6_87 (by decide) (by decide)) dX7_goDown_203 ?_
                    refine at_imul C dX7_goDown_204 ?_
                    refine at_iload C 0 dX7_goDown_205 rfl ?_
                    refine at_icmp_lt C 215 dX7_goDown_207 (by decide) (fun c1129 => ?_) (fun c1129 => ?_)
                    · have f1130 : iv (-2147483648) 2147483646 (y4_32 * (ac_ga u1124 38 (y6_48).toNatClampNeg)) := (iv_ltl (iv_any (y4_32 * (ac_ga u1124 38 (y6_48).toNatClampNeg))) (iv_any x2) c1129)
                      have f1131 : iv (-2147483647) 2147483647 x2 := (iv_ltr (iv_any (y4_32 * (ac_ga u1124 38 (y6_48).toNatClampNeg))) (iv_any x2) c1129)
                      refine at_aload_n C 1 dX7_goDown_215 rfl ?_
                      refine at_dup C dX7_goDown_216 rfl ?_
                      refine gf_X7_157 C dX7_goDown_217 ?_
                      refine at_iconst C (1 : Int32) dX7_goDown_220 (by decide) ?_
                      refine at_iload C 7 dX7_goDown_221 rfl ?_
                      refine at_ishl C dX7_goDown_223 ?_
                      refine at_ior C dX7_goDown_224 ?_
                      refine pf_X7_157 C dX7_goDown_225 ?_
                      have hG1132 := Gd.si (k := 22) hG1126 rfl (show iv 0 1023 ((ac_gi u1124 22) ||| ((1 : Int32) <<< (y6_48 &&& 31))) from (iv_or 10 (show iv 0 1023 (ac_gi u1124 22) from hg1125.1.1 22) (iv_wk (c := 0) (iv_shl1 (a := 0) (b := 9) b6_87 (by decide)) (by decide) (Int.le_refl _)) (by decide) (by decide) (by decide)))
                      refine at_aload_n C 1 dX7_goDown_228 rfl ?_
                      refine gf_X7_51 C dX7_goDown_229 ?_
                      refine at_iload C 7 dX7_goDown_232 rfl ?_
                      refine at_aload_n C 1 dX7_goDown_234 rfl ?_
                      refine gf_X7_163 C dX7_goDown_235 ?_
                      show AT E 238 [(7, .int x2), (0, .ref (e_q E 30)), (1, .int x1), (2, .int x2), (3, .int y3_32), (4, .int y4_32), (5, .int y5_32), (6, .int y6_48)] [.int (ac_gi u1124 24), .int y6_48, .ref (e_q E 40)] (ac_si u1124 22 ((ac_gi u1124 22) ||| ((1 : Int32) <<< (y6_48 &&& 31))))
                      refine at_iast C (c := 40) rfl (fun f => ac_ast_40 _ _ _ _ f) (iv_in (n := 10) b6_87 (by decide) (by decide)) dX7_goDown_238 ?_
                      have hG1133 := Gd.sa (c := 40) (i := (y6_48).toNatClampNeg) hG1132 rfl (show iv (-2147483648) 2147483647 (ac_gi u1124 24) from (iv_any (ac_gi u1124 24)))
                      refine at_iinc C (v := (y6_48 + (1 : Int32))) (lv' := [(6, .int (y6_48 + (1 : Int32))), (7, .int x2), (0, .ref (e_q E 30)), (1, .int x1), (2, .int x2), (3, .int y3_32), (4, .int y4_32), (5, .int y5_32)]) 7 dX7_goDown_239 rfl rfl hn6 rfl ?_
                      refine at_goto C 48 dX7_goDown_242 (by decide) ?_
                      exact at_sub [2, 3, 4, 5, 6, 7, 0] rfl (ih48 (y6_48 + (1 : Int32)) (ac_sa (ac_si u1124 22 ((ac_gi u1124 22) ||| ((1 : Int32) <<< (y6_48 &&& 31)))) 40 (upd (ac_ga (ac_si u1124 22 ((ac_gi u1124 22) ||| ((1 : Int32) <<< (y6_48 &&& 31)))) 40) (y6_48).toNatClampNeg (ac_gi u1124 24))) (mz_up hm48 (ac_ti1 b6_87 (iv_c (c := 1) (x := (1 : Int32)) (by decide)) (by decide) (by decide) (by decide)) (by decide) (iv_wk (iv_add b6_87 (iv_c (c := 1) (x := (1 : Int32)) (by decide)) (by decide) (by decide)) (by decide) (by decide) : iv 0 10 (y6_48 + (1 : Int32))).2) (iv_wk (iv_add b6_87 (iv_c (c := 1) (x := (1 : Int32)) (by decide)) (by decide) (by decide)) (by decide) (by decide) : iv 0 10 (y6_48 + (1 : Int32))) hG1133 (gd_bk (iv_wk b6_87 (by decide) (by decide) : iv 0 9 y6_48) e0_48 fr1122 fr1123 c1089) e1_48)
                    · refine at_iload C 5 dX7_goDown_210 rfl ?_
                      refine at_if_ne C 239 dX7_goDown_212 (by decide) (fun c1134 => ?_) (fun c1134 => ?_)
                      · have f1135 : iv 1 1000 y4_32 := (iv_nel b4_32 (by decide) c1134)
                        refine at_iinc C (v := (y6_48 + (1 : Int32))) (lv' := [(6, .int (y6_48 + (1 : Int32))), (7, .int x2), (0, .ref (e_q E 30)), (1, .int x1), (2, .int x2), (3, .int y3_32), (4, .int y4_32), (5, .int y5_32)]) 7 dX7_goDown_239 rfl rfl hn6 rfl ?_
                        refine at_goto C 48 dX7_goDown_242 (by decide) ?_
                        exact at_sub [2, 3, 4, 5, 6, 7, 0] rfl (ih48 (y6_48 + (1 : Int32)) u1124 (mz_up hm48 (ac_ti1 b6_87 (iv_c (c := 1) (x := (1 : Int32)) (by decide)) (by decide) (by decide) (by decide)) (by decide) (iv_wk (iv_add b6_87 (iv_c (c := 1) (x := (1 : Int32)) (by decide)) (by decide) (by decide)) (by decide) (by decide) : iv 0 10 (y6_48 + (1 : Int32))).2) (iv_wk (iv_add b6_87 (iv_c (c := 1) (x := (1 : Int32)) (by decide)) (by decide) (by decide)) (by decide) (by decide) : iv 0 10 (y6_48 + (1 : Int32))) hG1126 (gd_same (iv_wk b6_87 (by decide) (by decide) : iv 0 9 y6_48) e0_48 fr1122 fr1123 (Or.inr (Or.inr c1134))) e1_48)
                      · have f1136 : iv 0 0 y4_32 := (iv_eql (iv_c (c := 0) (x := (0 : Int32)) (by decide)) c1134)
                        refine at_aload_n C 1 dX7_goDown_215 rfl ?_
                        refine at_dup C dX7_goDown_216 rfl ?_
                        refine gf_X7_157 C dX7_goDown_217 ?_
                        refine at_iconst C (1 : Int32) dX7_goDown_220 (by decide) ?_
                        refine at_iload C 7 dX7_goDown_221 rfl ?_
                        refine at_ishl C dX7_goDown_223 ?_
                        refine at_ior C dX7_goDown_224 ?_
                        refine pf_X7_157 C dX7_goDown_225 ?_
                        have hG1137 := Gd.si (k := 22) hG1126 rfl (show iv 0 1023 ((ac_gi u1124 22) ||| ((1 : Int32) <<< (y6_48 &&& 31))) from (iv_or 10 (show iv 0 1023 (ac_gi u1124 22) from hg1125.1.1 22) (iv_wk (c := 0) (iv_shl1 (a := 0) (b := 9) b6_87 (by decide)) (by decide) (Int.le_refl _)) (by decide) (by decide) (by decide)))
                        refine at_aload_n C 1 dX7_goDown_228 rfl ?_
                        refine gf_X7_51 C dX7_goDown_229 ?_
                        refine at_iload C 7 dX7_goDown_232 rfl ?_
                        refine at_aload_n C 1 dX7_goDown_234 rfl ?_
                        refine gf_X7_163 C dX7_goDown_235 ?_
                        show AT E 238 [(7, .int x2), (0, .ref (e_q E 30)), (1, .int x1), (2, .int x2), (3, .int y3_32), (4, .int y4_32), (5, .int y5_32), (6, .int y6_48)] [.int (ac_gi u1124 24), .int y6_48, .ref (e_q E 40)] (ac_si u1124 22 ((ac_gi u1124 22) ||| ((1 : Int32) <<< (y6_48 &&& 31))))
                        refine at_iast C (c := 40) rfl (fun f => ac_ast_40 _ _ _ _ f) (iv_in (n := 10) b6_87 (by decide) (by decide)) dX7_goDown_238 ?_
                        have hG1138 := Gd.sa (c := 40) (i := (y6_48).toNatClampNeg) hG1137 rfl (show iv (-2147483648) 2147483647 (ac_gi u1124 24) from (iv_any (ac_gi u1124 24)))
                        refine at_iinc C (v := (y6_48 + (1 : Int32))) (lv' := [(6, .int (y6_48 + (1 : Int32))), (7, .int x2), (0, .ref (e_q E 30)), (1, .int x1), (2, .int x2), (3, .int y3_32), (4, .int y4_32), (5, .int y5_32)]) 7 dX7_goDown_239 rfl rfl hn6 rfl ?_
                        refine at_goto C 48 dX7_goDown_242 (by decide) ?_
                        exact at_sub [2, 3, 4, 5, 6, 7, 0] rfl (ih48 (y6_48 + (1 : Int32)) (ac_sa (ac_si u1124 22 ((ac_gi u1124 22) ||| ((1 : Int32) <<< (y6_48 &&& 31)))) 40 (upd (ac_ga (ac_si u1124 22 ((ac_gi u1124 22) ||| ((1 : Int32) <<< (y6_48 &&& 31)))) 40) (y6_48).toNatClampNeg (ac_gi u1124 24))) (mz_up hm48 (ac_ti1 b6_87 (iv_c (c := 1) (x := (1 : Int32)) (by decide)) (by decide) (by decide) (by decide)) (by decide) (iv_wk (iv_add b6_87 (iv_c (c := 1) (x := (1 : Int32)) (by decide)) (by decide) (by decide)) (by decide) (by decide) : iv 0 10 (y6_48 + (1 : Int32))).2) (iv_wk (iv_add b6_87 (iv_c (c := 1) (x := (1 : Int32)) (by decide)) (by decide) (by decide)) (by decide) (by decide) : iv 0 10 (y6_48 + (1 : Int32))) hG1138 (gd_bk (iv_wk b6_87 (by decide) (by decide) : iv 0 9 y6_48) e0_48 fr1122 fr1123 c1089) e1_48)
                  · have f1139 : iv (-5) 0 r1120 := (iv_neh f1121 (by decide) c1127)
                    refine at_aload_n C 1 dX7_goDown_151 rfl ?_
                    refine at_dup C dX7_goDown_152 rfl ?_
                    refine gf_X7_160 C dX7_goDown_153 ?_
                    refine at_iconst C (1 : Int32) dX7_goDown_156 (by decide) ?_
                    refine at_iload C 7 dX7_goDown_157 rfl ?_
                    refine at_ishl C dX7_goDown_159 ?_
                    refine at_ior C dX7_goDown_160 ?_
                    refine pf_X7_160 C dX7_goDown_161 ?_
                    have hG1140 := Gd.si (k := 23) hG1126 rfl (show iv 0 1023 ((ac_gi u1124 23) ||| ((1 : Int32) <<< (y6_48 &&& 31))) from (iv_or 10 (show iv 0 1023 (ac_gi u1124 23) from hg1125.1.1 23) (iv_wk (c := 0) (iv_shl1 (a := 0) (b := 9) b6_87 (by decide)) (by decide) (Int.le_refl _)) (by decide) (by decide) (by decide)))
                    refine at_aload_n C 1 dX7_goDown_164 rfl ?_
                    refine gf_X7_48 C dX7_goDown_165 ?_
                    refine at_iload C 7 dX7_goDown_168 rfl ?_
                    refine at_iload C 6 dX7_goDown_170 rfl ?_
                    refine at_aload_n C 1 dX7_goDown_172 rfl ?_
                    refine gf_X7_39 C dX7_goDown_173 ?_
                    refine at_iload C 7 dX7_goDown_176 rfl ?_
                    refine at_iald C (c := 38) rfl (iv_in (n := 10) b6_87 (by decide) (by decide)) dX7_goDown_178 ?_
                    show AT E 179 [(7, .int x2), (0, .ref (e_q E 30)), (1, .int x1), (2, .int x2), (3, .int y3_32), (4, .int y4_32), (5, .int y5_32), (6, .int y6_48)] [.int (ac_ga u1124 38 (y6_48).toNatClampNeg), .int y5_32, .int y6_48, .ref (e_q E 39)] (ac_si u1124 23 ((ac_gi u1124 23) ||| ((1 : Int32) <<< (y6_48 &&& 31))))
                    refine at_imul C dX7_goDown_179 ?_
                    refine at_iast C (c := 39) rfl (fun f => ac_ast_39 _ _ _ _ f) (iv_in (n := 10) b6_87 (by decide) (by decide)) dX7_goDown_180 ?_
                    have hG1141 := Gd.sa (c := 39) (i := (y6_48).toNatClampNeg) hG1140 rfl (show iv (-2147483648) 2147483647 (y5_32 * (ac_ga u1124 38 (y6_48).toNatClampNeg)) from (iv_any (y5_32 * (ac_ga u1124 38 (y6_48).toNatClampNeg))))
                    refine at_aload_n C 1 dX7_goDown_181 rfl ?_
                    refine gf_X7_51 C dX7_goDown_182 ?_
                    refine at_iload C 7 dX7_goDown_185 rfl ?_
                    refine at_aload_n C 1 dX7_goDown_187 rfl ?_
                    refine gf_X7_163 C dX7_goDown_188 ?_
                    show AT E 191 [(7, .int x2), (0, .ref (e_q E 30)), (1, .int x1), (2, .int x2), (3, .int y3_32), (4, .int y4_32), (5, .int y5_32), (6, .int y6_48)] [.int (ac_gi u1124 24), .int y6_48, .ref (e_q E 40)] (ac_sa (ac_si u1124 23 ((ac_gi u1124 23) ||| ((1 : Int32) <<< (y6_48 &&& 31)))) 39 (upd (ac_ga (ac_si u1124 23 ((ac_gi u1124 23) ||| ((1 : Int32) <<< (y6_48 &&& 31)))) 39) (y6_48).toNatClampNeg (y5_32 * (ac_ga u1124 38 (y6_48).toNatClampNeg))))
                    refine at_iast C (c := 40) rfl (fun f => ac_ast_40 _ _ _ _ f) (iv_in (n := 10) b6_87 (by decide) (by decide)) dX7_goDown_191 ?_
                    have hG1142 := Gd.sa (c := 40) (i := (y6_48).toNatClampNeg) hG1141 rfl (show iv (-2147483648) 2147483647 (ac_gi u1124 24) from (iv_any (ac_gi u1124 24)))
                    refine at_goto C 239 dX7_goDown_192 (by decide) ?_
                    refine at_iinc C (v := (y6_48 + (1 : Int32))) (lv' := [(6, .int (y6_48 + (1 : Int32))), (7, .int x2), (0, .ref (e_q E 30)), (1, .int x1), (2, .int x2), (3, .int y3_32), (4, .int y4_32), (5, .int y5_32)]) 7 dX7_goDown_239 rfl rfl hn6 rfl ?_
                    refine at_goto C 48 dX7_goDown_242 (by decide) ?_
                    exact at_sub [2, 3, 4, 5, 6, 7, 0] rfl (ih48 (y6_48 + (1 : Int32)) (ac_sa (ac_sa (ac_si u1124 23 ((ac_gi u1124 23) ||| ((1 : Int32) <<< (y6_48 &&& 31)))) 39 (upd (ac_ga (ac_si u1124 23 ((ac_gi u1124 23) ||| ((1 : Int32) <<< (y6_48 &&& 31)))) 39) (y6_48).toNatClampNeg (y5_32 * (ac_ga u1124 38 (y6_48).toNatClampNeg)))) 40 (upd (ac_ga (ac_sa (ac_si u1124 23 ((ac_gi u1124 23) ||| ((1 : Int32) <<< (y6_48 &&& 31)))) 39 (upd (ac_ga (ac_si u1124 23 ((ac_gi u1124 23) ||| ((1 : Int32) <<< (y6_48 &&& 31)))) 39) (y6_48).toNatClampNeg (y5_32 * (ac_ga u1124 38 (y6_48).toNatClampNeg)))) 40) (y6_48).toNatClampNeg (ac_gi u1124 24))) (mz_up hm48 (ac_ti1 b6_87 (iv_c (c := 1) (x := (1 : Int32)) (by decide)) (by decide) (by decide) (by decide)) (by decide) (iv_wk (iv_add b6_87 (iv_c (c := 1) (x := (1 : Int32)) (by decide)) (by decide) (by decide)) (by decide) (by decide) : iv 0 10 (y6_48 + (1 : Int32))).2) (iv_wk (iv_add b6_87 (iv_c (c := 1) (x := (1 : Int32)) (by decide)) (by decide) (by decide)) (by decide) (by decide) : iv 0 10 (y6_48 + (1 : Int32))) hG1142 (gd_fr (iv_wk b6_87 (by decide) (by decide) : iv 0 9 y6_48) e0_48 fr1122 fr1123 c1089) e1_48)
          refine at_iload C 6 dX7_goDown_48 rfl ?_
          refine at_aload_n C 0 dX7_goDown_50 rfl ?_
          refine gf_X7_87 C dX7_goDown_51 ?_
          refine at_icmp_ge C 245 dX7_goDown_54 (by decide) (fun c1143 => ?_) (fun c1143 => ?_)
          · refine at_aload_n C 0 dX7_goDown_245 rfl ?_
            refine at_dup C dX7_goDown_246 rfl ?_
            refine gf_X7_163 C dX7_goDown_247 ?_
            refine at_iconst C (1 : Int32) dX7_goDown_250 (by decide) ?_
            refine at_iadd C dX7_goDown_251 ?_
            refine pf_X7_163 C dX7_goDown_252 ?_
            have hG1144 := Gd.si (k := 24) hG_48 rfl (show iv (-2147483648) 2147483647 ((ac_gi s48 24) + (1 : Int32)) from (iv_any ((ac_gi s48 24) + (1 : Int32))))
            refine at_iload C 4 dX7_goDown_255 rfl ?_
            refine at_istore C (lv' := [(5, .int y4_32), (0, .ref (e_q E 30)), (1, .int x1), (2, .int x2), (3, .int y3_32), (4, .int y4_32), (6, .int y6_48)]) dX7_goDown_257 hn5 rfl ?_
            refine at_iload C 5 dX7_goDown_259 rfl ?_
            refine at_aload_n C 1 dX7_goDown_261 rfl ?_
            refine gf_X7_45 C dX7_goDown_262 ?_
            show AT E 265 [(5, .int y4_32), (0, .ref (e_q E 30)), (1, .int x1), (2, .int x2), (3, .int y3_32), (4, .int y4_32), (6, .int y6_48)] [.int (ac_gi s48 21), .int y4_32] (ac_si s48 24 ((ac_gi s48 24) + (1 : Int32)))
            refine at_icmp_le C 278 dX7_goDown_265 (by decide) (fun c1145 => ?_) (fun c1145 => ?_)
            · have f1146 : iv 0 100 y4_32 := (iv_lel b4_32 (show iv 1 100 (ac_gi s48 21) from hG_48.1.1 21) c1145)
              refine at_iconst C (0 : Int32) dX7_goDown_278 (by decide) ?_
              refine at_istore C (lv' := [(4, .int (0 : Int32)), (5, .int y4_32), (0, .ref (e_q E 30)), (1, .int x1), (2, .int x2), (3, .int y3_32), (6, .int y6_48)]) dX7_goDown_279 hn4 rfl ?_
              refine at_goto C 32 dX7_goDown_281 (by decide) ?_
              exact at_sub [2, 3, 4, 5, 0, 1] rfl (ih32 y3_32 (0 : Int32) y4_32 (ac_si s48 24 ((ac_gi s48 24) + (1 : Int32))) (show (((0 : Int32)).toInt + (y4_32).toInt).toNat < n32 from by have q0 := hm32; have q9 := e2_32; have q8 := e1_48; have q1 := b4_32.1; have q2 : (0 : Int32).toInt = 0 := (by decide); have q7 := b5_32.1; omega) (show iv 0 1023 y3_32 from b3_32) (iv_wk (iv_c (c := 0) (x := (0 : Int32)) (by decide)) (by decide) (by decide) : iv 0 1000 (0 : Int32)) (iv_wk f1146 (by decide) (by decide) : iv 0 1000 y4_32) hG1144 e0_32 e0_48.1 (show ((0 : Int32)).toInt ≤ (y4_32).toInt from by have q1 := b4_32.1; have q2 : (0 : Int32).toInt = 0 := (by decide); omega) (fun z => gd_end e0_48 e0_32 (by have q := iv_le c1143; have q2 := congrArg Int32.toInt (hG_48.2.1 15 rfl); omega) z))
            · have f1147 : iv 2 1000 y4_32 := (iv_ltr (show iv 1 100 (ac_gi s48 21) from hG_48.1.1 21) b4_32 (Int32.not_le.mp c1145))
              refine at_iload C 5 dX7_goDown_268 rfl ?_
              refine at_aload_n C 1 dX7_goDown_270 rfl ?_
              refine gf_X7_45 C dX7_goDown_271 ?_
              show AT E 274 [(5, .int y4_32), (0, .ref (e_q E 30)), (1, .int x1), (2, .int x2), (3, .int y3_32), (4, .int y4_32), (6, .int y6_48)] [.int (ac_gi s48 21), .int y4_32] (ac_si s48 24 ((ac_gi s48 24) + (1 : Int32)))
              refine at_isub C dX7_goDown_274 ?_
              have f1148 : iv 1 999 (y4_32 - (ac_gi s48 21)) := ⟨by have q := ti_sub f1147 (show iv 1 100 (ac_gi s48 21) from hG_48.1.1 21) (by decide) (by decide); have q2 := iv_lt (Int32.not_le.mp c1145); omega, by have q := ti_sub f1147 (show iv 1 100 (ac_gi s48 21) from hG_48.1.1 21) (by decide) (by decide); have q2 := (show iv 1 100 (ac_gi s48 21) from (show iv 1 100 (ac_gi s48 21) from hG_48.1.1 21)).1; have q3 := (show iv 2 1000 y4_32 from f1147).2; omega⟩
              refine at_goto C 279 dX7_goDown_275 (by decide) ?_
              refine at_istore C (lv' := [(4, .int (y4_32 - (ac_gi s48 21))), (5, .int y4_32), (0, .ref (e_q E 30)), (1, .int x1), (2, .int x2), (3, .int y3_32), (6, .int y6_48)]) dX7_goDown_279 hn4 rfl ?_
              refine at_goto C 32 dX7_goDown_281 (by decide) ?_
              exact at_sub [2, 3, 4, 5, 0, 1] rfl (ih32 y3_32 (y4_32 - (ac_gi s48 21)) y4_32 (ac_si s48 24 ((ac_gi s48 24) + (1 : Int32))) (show (((y4_32 - (ac_gi s48 21))).toInt + (y4_32).toInt).toNat < n32 from by have q0 := hm32; have q9 := e2_32; have q8 := e1_48; have q1 := b4_32.1; have q2 : (0 : Int32).toInt = 0 := (by decide); have q3 := ti_sub f1147 (show iv 1 100 (ac_gi s48 21) from hG_48.1.1 21) (by decide) (by decide); have q4 := (show iv 1 100 (ac_gi s48 21) from (show iv 1 100 (ac_gi s48 21) from hG_48.1.1 21)).1; have q7 := b5_32.1; omega) (show iv 0 1023 y3_32 from b3_32) (iv_wk f1148 (by decide) (by decide) : iv 0 1000 (y4_32 - (ac_gi s48 21))) (iv_wk f1147 (by decide) (by decide) : iv 0 1000 y4_32) hG1144 e0_32 e0_48.1 (show ((y4_32 - (ac_gi s48 21))).toInt ≤ (y4_32).toInt from by have q1 := b4_32.1; have q2 : (0 : Int32).toInt = 0 := (by decide); have q3 := ti_sub f1147 (show iv 1 100 (ac_gi s48 21) from hG_48.1.1 21) (by decide) (by decide); have q4 := (show iv 1 100 (ac_gi s48 21) from (show iv 1 100 (ac_gi s48 21) from hG_48.1.1 21)).1; omega) (fun z => gd_end e0_48 e0_32 (by have q := iv_le c1143; have q2 := congrArg Int32.toInt (hG_48.2.1 15 rfl); omega) z))
          · have f1149 : iv 0 9 y6_48 := (iv_ltl b6_48 (show iv 0 10 (ac_gi s48 15) from hG_48.1.1 15) (Int32.not_le.mp c1143))
            have f1150 : iv 1 10 (ac_gi s48 15) := (iv_ltr b6_48 (show iv 0 10 (ac_gi s48 15) from hG_48.1.1 15) (Int32.not_le.mp c1143))
            refine at_aload_n C 0 dX7_goDown_57 rfl ?_
            refine gf_X7_48 C dX7_goDown_58 ?_
            refine at_iload C 6 dX7_goDown_61 rfl ?_
            refine at_aload_n C 0 dX7_goDown_63 rfl ?_
            refine gf_X7_160 C dX7_goDown_64 ?_
            refine at_iload C 6 dX7_goDown_67 rfl ?_
            refine at_ishr C dX7_goDown_69 ?_
            refine at_iconst C (1 : Int32) dX7_goDown_70 (by decide) ?_
            refine at_iand C dX7_goDown_71 ?_
            refine at_iconst C (1 : Int32) dX7_goDown_72 (by decide) ?_
            refine at_icmp_ne C 86 dX7_goDown_73 (by decide) (fun c1151 => ?_) (fun c1151 => ?_)
            · have f1152 : iv 0 0 (((ac_gi s48 23) >>> (y6_48 &&& 31)) &&& (1 : Int32)) := (iv_neh (iv_andr (iv_wk (c := 0) (iv_c (c := 1) (x := (1 : Int32)) (by decide)) (by decide) (Int.le_refl _))) (by decide) c1151)
              refine at_iconst C (0 : Int32) dX7_goDown_86 (by decide) ?_
              exact at_sub [0, 1, 2, 3, 4, 5, 6] rfl (K87 (0 : Int32) y6_48 (show iv 0 9 y6_48 from f1149) (iv_wk (iv_c (c := 0) (x := (0 : Int32)) (by decide)) (by decide) (by decide) : iv (-2147483648) 2147483647 (0 : Int32)) (show iv 0 9 y6_48 from f1149))
            · have f1153 : iv 1 1 (((ac_gi s48 23) >>> (y6_48 &&& 31)) &&& (1 : Int32)) := (iv_eql (iv_c (c := 1) (x := (1 : Int32)) (by decide)) c1151)
              refine at_aload_n C 0 dX7_goDown_76 rfl ?_
              refine gf_X7_48 C dX7_goDown_77 ?_
              refine at_iload C 6 dX7_goDown_80 rfl ?_
              refine at_iald C (c := 39) rfl (iv_in (n := 10) f1149 (by decide) (by decide)) dX7_goDown_82 ?_
              refine at_goto C 87 dX7_goDown_83 (by decide) ?_
              exact at_sub [0, 1, 2, 3, 4, 5, 6] rfl (K87 (ac_ga s48 39 (y6_48).toNatClampNeg) y6_48 (show iv 0 9 y6_48 from f1149) (show iv (-2147483648) 2147483647 (ac_ga s48 39 (y6_48).toNatClampNeg) from (iv_any (ac_ga s48 39 (y6_48).toNatClampNeg))) (show iv 0 9 y6_48 from f1149))
      refine at_aload_n C 0 dX7_goDown_32 rfl ?_
      refine gf_X7_157 C dX7_goDown_33 ?_
      refine at_aload_n C 0 dX7_goDown_36 rfl ?_
      refine gf_X7_160 C dX7_goDown_37 ?_
      refine at_ior C dX7_goDown_40 ?_
      refine at_iload_n C 3 dX7_goDown_41 rfl ?_
      refine at_icmp_eq C 284 dX7_goDown_42 (by decide) (fun c1154 => ?_) (fun c1154 => ?_)
      · exact hR _ _ _ dX7_goDown_284 hG_32
      · refine at_iconst C (0 : Int32) dX7_goDown_45 (by decide) ?_
        refine at_istore C (lv' := [(6, .int (0 : Int32)), (0, .ref (e_q E 30)), (1, .int x1), (2, .int x2), (3, .int y3_32), (4, .int y4_32), (5, .int y5_32)]) dX7_goDown_46 hn6 rfl ?_
        exact at_sub [1, 2, 3, 4, 5, 6, 0] rfl (K48 _ (0 : Int32) s32 (Nat.lt_succ_self _) (iv_wk (iv_c (c := 0) (x := (0 : Int32)) (by decide)) (by decide) (by decide) : iv 0 10 (0 : Int32)) hG_32 (gd_i0 e1_32) (fun z => c1154 (e3_32 z)))
  refine at_aload_n C 0 dX7_goDown_0 rfl ?_
  refine at_Vi C (As := []) (st := []) (b := 30) (ci := 7) (ct_X7_olds σ hI) mb_X7_olds ml_X7_153 rfl rfl rfl (by decide) rfl (Nat.le_of_ble_eq_true rfl) dX7_goDown_1 ?_
  rintro r1155 _ ⟨rfl, f1156, mo1157⟩
  refine at_istore_n C (lv' := [(3, .int r1155), (0, .ref (e_q E 30)), (1, .int x1), (2, .int x2)]) dX7_goDown_4 hn3 rfl ?_
  refine at_aload_n C 1 dX7_goDown_5 rfl ?_
  refine at_iconst C (0 : Int32) dX7_goDown_6 (by decide) ?_
  refine pf_X7_157 C dX7_goDown_7 ?_
  have hG1158 := Gd.si (k := 22) hG0 rfl (iv_wk (iv_c (c := 0) (x := (0 : Int32)) (by decide)) (by decide) (by decide) : iv 0 1023 (0 : Int32))
  refine at_aload_n C 1 dX7_goDown_10 rfl ?_
  refine at_iconst C (0 : Int32) dX7_goDown_11 (by decide) ?_
  refine pf_X7_160 C dX7_goDown_12 ?_
  have hG1159 := Gd.si (k := 23) hG1158 rfl (iv_wk (iv_c (c := 0) (x := (0 : Int32)) (by decide)) (by decide) (by decide) : iv 0 1023 (0 : Int32))
  refine at_aload_n C 1 dX7_goDown_15 rfl ?_
  refine at_iconst C (0 : Int32) dX7_goDown_16 (by decide) ?_
  refine pf_X7_163 C dX7_goDown_17 ?_
  have hG1160 := Gd.si (k := 24) hG1159 rfl (iv_wk (iv_c (c := 0) (x := (0 : Int32)) (by decide)) (by decide) (by decide) : iv (-2147483648) 2147483647 (0 : Int32))
  refine at_aload_n C 1 dX7_goDown_20 rfl ?_
  refine gf_X7_42 C dX7_goDown_21 ?_
  show AT E 24 [(3, .int r1155), (0, .ref (e_q E 30)), (1, .int x1), (2, .int x2)] [.int (ac_gi σ 20)] (ac_si (ac_si (ac_si σ 22 (0 : Int32)) 23 (0 : Int32)) 24 (0 : Int32))
  refine at_istore C (lv' := [(4, .int (ac_gi σ 20)), (3, .int r1155), (0, .ref (e_q E 30)), (1, .int x1), (2, .int x2)]) dX7_goDown_24 hn4 rfl ?_
  refine at_aload_n C 2 dX7_goDown_26 rfl ?_
  refine gf_X7_42 C dX7_goDown_27 ?_
  show AT E 30 [(4, .int (ac_gi σ 20)), (3, .int r1155), (0, .ref (e_q E 30)), (1, .int x1), (2, .int x2)] [.int (ac_gi σ 20)] (ac_si (ac_si (ac_si σ 22 (0 : Int32)) 23 (0 : Int32)) 24 (0 : Int32))
  refine at_istore C (lv' := [(5, .int (ac_gi σ 20)), (4, .int (ac_gi σ 20)), (3, .int r1155), (0, .ref (e_q E 30)), (1, .int x1), (2, .int x2)]) dX7_goDown_30 hn5 rfl ?_
  exact at_sub [3, 4, 5, 2, 1, 0] rfl (K32 _ r1155 (ac_gi σ 20) (ac_gi σ 20) (ac_si (ac_si (ac_si σ 22 (0 : Int32)) 23 (0 : Int32)) 24 (0 : Int32)) (Nat.lt_succ_self _) (show iv 0 1023 r1155 from f1156) (iv_wk (show iv 1 1000 (ac_gi σ 20) from hI.1 20) (by decide) (by decide) : iv 0 1000 (ac_gi σ 20)) (iv_wk (show iv 1 1000 (ac_gi σ 20) from hI.1 20) (by decide) (by decide) : iv 0 1000 (ac_gi σ 20)) hG1160 (fun j hj => ((mo1157 j).mp hj).1) gd_0 (Int.le_refl _) (fun z => by have q := (show iv 1 1000 (ac_gi σ 20) from (show iv 1 1000 (ac_gi σ 20) from hI.1 20)).1; omega))
