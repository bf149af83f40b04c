set_option maxHeartbeats 4000000 in
set_option maxRecDepth 100000 in
theorem ct_X7_findWorths (σ : SS) (x1 : Int32) (hI : Inv σ) : ConV yX7_findWorths cX7_findWorths 8 none 0 (some 30) [.int x1] σ (fun σ' => Gd σ σ') := by
  refine conV_of (by decide) (fun q => Nat.le_of_ble_eq_true rfl) (fun E C en hR => ?_)
  have hn2 : 2 < e_n E := by rw [en]; decide
  have hn3 : 3 < e_n E := by rw [en]; decide
  have hn4 : 4 < e_n E := by rw [en]; decide
  have hn5 : 5 < e_n E := by rw [en]; decide
  have hn6 : 6 < e_n E := by rw [en]; decide
  have hn7 : 7 < e_n E := by rw [en]; decide
  have hG0 : Gd σ σ := Gd.rf hI
  have K27 : ∀ (n27 : Nat) (y2_27 : Int32) (s27 : SS), ((y2_27).toInt - (-1)).toNat < n27 → iv (-1) 5 y2_27 → Gd σ s27 → AT E 27 [(0, .ref (e_q E 30)), (1, .int x1), (2, .int y2_27)] [] s27 := by
    intro n27
    induction n27 with
    | zero => intro y2_27 s27 hm; exact absurd hm (Nat.not_lt_zero _)
    | succ n27 ih27 =>
      intro y2_27 s27 hm27 b2_27 hG_27
      have K33 : ∀ (n33 : Nat) (y3_33 : Int32) (s33 : SS), (64 - (y3_33).toInt).toNat < n33 → iv 0 5 y2_27 → iv 0 64 y3_33 → Gd σ s33 → AT E 33 [(0, .ref (e_q E 30)), (1, .int x1), (2, .int y2_27), (3, .int y3_33)] [] s33 := by
        intro n33
        induction n33 with
        | zero => intro y3_33 s33 hm; exact absurd hm (Nat.not_lt_zero _)
        | succ n33 ih33 =>
          intro y3_33 s33 hm33 b2_33 b3_33 hG_33
          have K57 : ∀ (n57 : Nat) (y4_57 : Int32) (y5_57 : Int32), (24 - (y5_57).toInt).toNat < n57 → iv 0 63 y3_33 → iv (-2147483648) 2147483647 y4_57 → iv 0 24 y5_57 → AT E 57 [(0, .ref (e_q E 30)), (1, .int x1), (2, .int y2_27), (3, .int y3_33), (4, .int y4_57), (5, .int y5_57)] [] s33 := by
            intro n57
            induction n57 with
            | zero => intro y4_57 y5_57 hm; exact absurd hm (Nat.not_lt_zero _)
            | succ n57 ih57 =>
              intro y4_57 y5_57 hm57 b3_57 b4_57 b5_57
              have K110 : ∀ (z0_110 : Int32), iv 0 23 y5_57 → iv 0 1 z0_110 → AT E 110 [(0, .ref (e_q E 30)), (1, .int x1), (2, .int y2_27), (3, .int y3_33), (4, .int y4_57), (5, .int y5_57)] [.int z0_110] s33 := by
                intro z0_110 b5_110 bz0_110
                refine at_istore C (lv' := [(6, .int z0_110), (0, .ref (e_q E 30)), (1, .int x1), (2, .int y2_27), (3, .int y3_33), (4, .int y4_57), (5, .int y5_57)]) dX7_findWorths_110 hn6 rfl ?_
                refine at_iload C 0 dX7_findWorths_112 rfl ?_
                refine at_if_eq C 151 dX7_findWorths_114 (by decide) (fun c883 => ?_) (fun c883 => ?_)
                · have f884 : iv 0 0 z0_110 := (iv_eql (iv_c (c := 0) (x := (0 : Int32)) (by decide)) c883)
                  refine at_iconst C (0 : Int32) dX7_findWorths_151 (by decide) ?_
                  refine at_istore C (lv' := [(7, .int (0 : Int32)), (6, .int z0_110), (0, .ref (e_q E 30)), (1, .int x1), (2, .int y2_27), (3, .int y3_33), (4, .int y4_57), (5, .int y5_57)]) dX7_findWorths_152 hn7 rfl ?_
                  refine at_iload C 0 dX7_findWorths_154 rfl ?_
                  refine at_iload C 6 dX7_findWorths_156 rfl ?_
                  refine at_icmp_le C 166 dX7_findWorths_158 (by decide) (fun c885 => ?_) (fun c885 => ?_)
                  · have f886 : iv 0 2147483647 y4_57 := (iv_ler (iv_c (c := 0) (x := (0 : Int32)) (by decide)) b4_57 c885)
                    refine at_iload C 6 dX7_findWorths_166 rfl ?_
                    refine at_istore C (lv' := [(4, .int y4_57), (7, .int (0 : Int32)), (6, .int z0_110), (0, .ref (e_q E 30)), (1, .int x1), (2, .int y2_27), (3, .int y3_33), (5, .int y5_57)]) dX7_findWorths_168 hn4 rfl ?_
                    refine at_iinc C (v := (y5_57 + (1 : Int32))) (lv' := [(5, .int (y5_57 + (1 : Int32))), (4, .int y4_57), (7, .int (0 : Int32)), (6, .int z0_110), (0, .ref (e_q E 30)), (1, .int x1), (2, .int y2_27), (3, .int y3_33)]) 7 dX7_findWorths_170 rfl rfl hn5 rfl ?_
                    refine at_goto C 57 dX7_findWorths_173 (by decide) ?_
                    exact at_sub [4, 5, 6, 7, 1, 0] rfl (ih57 y4_57 (y5_57 + (1 : Int32)) (mz_up hm57 (ac_ti1 b5_110 (iv_c (c := 1) (x := (1 : Int32)) (by decide)) (by decide) (by decide) (by decide)) (by decide) (iv_wk (iv_add b5_110 (iv_c (c := 1) (x := (1 : Int32)) (by decide)) (by decide) (by decide)) (by decide) (by decide) : iv 0 24 (y5_57 + (1 : Int32))).2) (show iv 0 63 y3_33 from b3_57) (iv_wk f886 (by decide) (by decide) : iv (-2147483648) 2147483647 y4_57) (iv_wk (iv_add b5_110 (iv_c (c := 1) (x := (1 : Int32)) (by decide)) (by decide) (by decide)) (by decide) (by decide) : iv 0 24 (y5_57 + (1 : Int32))))
                  · have f887 : iv (-2147483648) (-1) y4_57 := (iv_ltl b4_57 (iv_c (c := 0) (x := (0 : Int32)) (by decide)) (Int32.not_le.mp c885))
                    refine at_iload C 0 dX7_findWorths_161 rfl ?_
                    refine at_goto C 168 dX7_findWorths_163 (by decide) ?_
                    refine at_istore C (lv' := [(4, .int (0 : Int32)), (7, .int (0 : Int32)), (6, .int z0_110), (0, .ref (e_q E 30)), (1, .int x1), (2, .int y2_27), (3, .int y3_33), (5, .int y5_57)]) dX7_findWorths_168 hn4 rfl ?_
                    refine at_iinc C (v := (y5_57 + (1 : Int32))) (lv' := [(5, .int (y5_57 + (1 : Int32))), (4, .int (0 : Int32)), (7, .int (0 : Int32)), (6, .int z0_110), (0, .ref (e_q E 30)), (1, .int x1), (2, .int y2_27), (3, .int y3_33)]) 7 dX7_findWorths_170 rfl rfl hn5 rfl ?_
                    refine at_goto C 57 dX7_findWorths_173 (by decide) ?_
                    exact at_sub [4, 5, 6, 7, 1, 0] rfl (ih57 (0 : Int32) (y5_57 + (1 : Int32)) (mz_up hm57 (ac_ti1 b5_110 (iv_c (c := 1) (x := (1 : Int32)) (by decide)) (by decide) (by decide) (by decide)) (by decide) (iv_wk (iv_add b5_110 (iv_c (c := 1) (x := (1 : Int32)) (by decide)) (by decide) (by decide)) (by decide) (by decide) : iv 0 24 (y5_57 + (1 : Int32))).2) (show iv 0 63 y3_33 from b3_57) (iv_wk (iv_c (c := 0) (x := (0 : Int32)) (by decide)) (by decide) (by decide) : iv (-2147483648) 2147483647 (0 : Int32)) (iv_wk (iv_add b5_110 (iv_c (c := 1) (x := (1 : Int32)) (by decide)) (by decide) (by decide)) (by decide) (by decide) : iv 0 24 (y5_57 + (1 : Int32))))
                · have f888 : iv 1 1 z0_110 := (iv_nel bz0_110 (by decide) c883)
                  refine at_aload_n C 1 dX7_findWorths_117 rfl ?_
                  refine gf_X7_63 C dX7_findWorths_118 ?_
                  refine at_iload C 6 dX7_findWorths_121 rfl ?_
                  refine at_iald C (c := 44) rfl (iv_in (n := 24) b5_110 (by decide) (by decide)) dX7_findWorths_123 ?_
                  refine at_aload_n C 1 dX7_findWorths_124 rfl ?_
                  refine gf_X7_72 C dX7_findWorths_125 ?_
                  refine at_bipush C (64 : Int32) dX7_findWorths_128 (by decide) ?_
                  refine at_iload_n C 3 dX7_findWorths_130 rfl ?_
                  refine at_iconst C (1 : Int32) dX7_findWorths_131 (by decide) ?_
                  refine at_iadd C dX7_findWorths_132 ?_
                  refine at_imul C dX7_findWorths_133 ?_
                  refine at_iload_n C 4 dX7_findWorths_134 rfl ?_
                  refine at_aload_n C 1 dX7_findWorths_135 rfl ?_
                  refine gf_X7_60 C dX7_findWorths_136 ?_
                  refine at_iload C 6 dX7_findWorths_139 rfl ?_
                  refine at_iald C (c := 43) rfl (iv_in (n := 24) b5_110 (by decide) (by decide)) dX7_findWorths_141 ?_
                  refine at_iconst C (-1 : Int32) dX7_findWorths_142 (by decide) ?_
                  refine at_ixor C dX7_findWorths_143 ?_
                  refine at_iand C dX7_findWorths_144 ?_
                  refine at_iadd C dX7_findWorths_145 ?_
                  refine at_iald C (c := 47) rfl (iv_in (n := 448) (iv_add (iv_mul (iv_wk (c := 0) (iv_c (c := 64) (x := (64 : Int32)) (by decide)) (by decide) (Int.le_refl _)) (iv_wk (c := 0) (iv_add b2_33 (iv_c (c := 1) (x := (1 : Int32)) (by decide)) (by decide) (by decide)) (by decide) (Int.le_refl _)) (by decide)) (iv_andl b3_57) (by decide) (by decide)) (by decide) (by decide)) dX7_findWorths_146 ?_
                  refine at_iadd C dX7_findWorths_147 ?_
                  refine at_goto C 152 dX7_findWorths_148 (by decide) ?_
                  refine at_istore C (lv' := [(7, .int ((ac_ga s33 44 (y5_57).toNatClampNeg) + (ac_ga s33 47 ((((64 : Int32) * (y2_27 + (1 : Int32))) + (y3_33 &&& ((ac_ga s33 43 (y5_57).toNatClampNeg) ^^^ (-1 : Int32))))).toNatClampNeg))), (6, .int z0_110), (0, .ref (e_q E 30)), (1, .int x1), (2, .int y2_27), (3, .int y3_33), (4, .int y4_57), (5, .int y5_57)]) dX7_findWorths_152 hn7 rfl ?_
                  refine at_iload C 0 dX7_findWorths_154 rfl ?_
                  refine at_iload C 6 dX7_findWorths_156 rfl ?_
                  refine at_icmp_le C 166 dX7_findWorths_158 (by decide) (fun c889 => ?_) (fun c889 => ?_)
                  · refine at_iload C 6 dX7_findWorths_166 rfl ?_
                    refine at_istore C (lv' := [(4, .int y4_57), (7, .int ((ac_ga s33 44 (y5_57).toNatClampNeg) + (ac_ga s33 47 ((((64 : Int32) * (y2_27 + (1 : Int32))) + (y3_33 &&& ((ac_ga s33 43 (y5_57).toNatClampNeg) ^^^ (-1 : Int32))))).toNatClampNeg))), (6, .int z0_110), (0, .ref (e_q E 30)), (1, .int x1), (2, .int y2_27), (3, .int y3_33), (5, .int y5_57)]) dX7_findWorths_168 hn4 rfl ?_
                    refine at_iinc C (v := (y5_57 + (1 : Int32))) (lv' := [(5, .int (y5_57 + (1 : Int32))), (4, .int y4_57), (7, .int ((ac_ga s33 44 (y5_57).toNatClampNeg) + (ac_ga s33 47 ((((64 : Int32) * (y2_27 + (1 : Int32))) + (y3_33 &&& ((ac_ga s33 43 (y5_57).toNatClampNeg) ^^^ (-1 : Int32))))).toNatClampNeg))), (6, .int z0_110), (0, .ref (e_q E 30)), (1, .int x1), (2, .int y2_27), (3, .int y3_33)]) 7 dX7_findWorths_170 rfl rfl hn5 rfl ?_
                    refine at_goto C 57 dX7_findWorths_173 (by decide) ?_
                    exact at_sub [4, 5, 6, 7, 1, 0] rfl (ih57 y4_57 (y5_57 + (1 : Int32)) (mz_up hm57 (ac_ti1 b5_110 (iv_c (c := 1) (x := (1 : Int32)) (by decide)) (by decide) (by decide) (by decide)) (by decide) (iv_wk (iv_add b5_110 (iv_c (c := 1) (x := (1 : Int32)) (by decide)) (by decide) (by decide)) (by decide) (by decide) : iv 0 24 (y5_57 + (1 : Int32))).2) (show iv 0 63 y3_33 from b3_57) (show iv (-2147483648) 2147483647 y4_57 from b4_57) (iv_wk (iv_add b5_110 (iv_c (c := 1) (x := (1 : Int32)) (by decide)) (by decide) (by decide)) (by decide) (by decide) : iv 0 24 (y5_57 + (1 : Int32))))
                  · have f890 : iv (-2147483648) 2147483646 y4_57 := (iv_ltl b4_57 (iv_any ((ac_ga s33 44 (y5_57).toNatClampNeg) + (ac_ga s33 47 ((((64 : Int32) * (y2_27 + (1 : Int32))) + (y3_33 &&& ((ac_ga s33 43 (y5_57).toNatClampNeg) ^^^ (-1 : Int32))))).toNatClampNeg))) (Int32.not_le.mp c889))
                    have f891 : iv (-2147483647) 2147483647 ((ac_ga s33 44 (y5_57).toNatClampNeg) + (ac_ga s33 47 ((((64 : Int32) * (y2_27 + (1 : Int32))) + (y3_33 &&& ((ac_ga s33 43 (y5_57).toNatClampNeg) ^^^ (-1 : Int32))))).toNatClampNeg)) := (iv_ltr b4_57 (iv_any ((ac_ga s33 44 (y5_57).toNatClampNeg) + (ac_ga s33 47 ((((64 : Int32) * (y2_27 + (1 : Int32))) + (y3_33 &&& ((ac_ga s33 43 (y5_57).toNatClampNeg) ^^^ (-1 : Int32))))).toNatClampNeg))) (Int32.not_le.mp c889))
                    refine at_iload C 0 dX7_findWorths_161 rfl ?_
                    refine at_goto C 168 dX7_findWorths_163 (by decide) ?_
                    refine at_istore C (lv' := [(4, .int ((ac_ga s33 44 (y5_57).toNatClampNeg) + (ac_ga s33 47 ((((64 : Int32) * (y2_27 + (1 : Int32))) + (y3_33 &&& ((ac_ga s33 43 (y5_57).toNatClampNeg) ^^^ (-1 : Int32))))).toNatClampNeg))), (7, .int ((ac_ga s33 44 (y5_57).toNatClampNeg) + (ac_ga s33 47 ((((64 : Int32) * (y2_27 + (1 : Int32))) + (y3_33 &&& ((ac_ga s33 43 (y5_57).toNatClampNeg) ^^^ (-1 : Int32))))).toNatClampNeg))), (6, .int z0_110), (0, .ref (e_q E 30)), (1, .int x1), (2, .int y2_27), (3, .int y3_33), (5, .int y5_57)]) dX7_findWorths_168 hn4 rfl ?_
                    refine at_iinc C (v := (y5_57 + (1 : Int32))) (lv' := [(5, .int (y5_57 + (1 : Int32))), (4, .int ((ac_ga s33 44 (y5_57).toNatClampNeg) + (ac_ga s33 47 ((((64 : Int32) * (y2_27 + (1 : Int32))) + (y3_33 &&& ((ac_ga s33 43 (y5_57).toNatClampNeg) ^^^ (-1 : Int32))))).toNatClampNeg))), (7, .int ((ac_ga s33 44 (y5_57).toNatClampNeg) + (ac_ga s33 47 ((((64 : Int32) * (y2_27 + (1 : Int32))) + (y3_33 &&& ((ac_ga s33 43 (y5_57).toNatClampNeg) ^^^ (-1 : Int32))))).toNatClampNeg))), (6, .int z0_110), (0, .ref (e_q E 30)), (1, .int x1), (2, .int y2_27), (3, .int y3_33)]) 7 dX7_findWorths_170 rfl rfl hn5 rfl ?_
                    refine at_goto C 57 dX7_findWorths_173 (by decide) ?_
                    exact at_sub [4, 5, 6, 7, 1, 0] rfl (ih57 ((ac_ga s33 44 (y5_57).toNatClampNeg) + (ac_ga s33 47 ((((64 : Int32) * (y2_27 + (1 : Int32))) + (y3_33 &&& ((ac_ga s33 43 (y5_57).toNatClampNeg) ^^^ (-1 : Int32))))).toNatClampNeg)) (y5_57 + (1 : Int32)) (mz_up hm57 (ac_ti1 b5_110 (iv_c (c := 1) (x := (1 : Int32)) (by decide)) (by decide) (by decide) (by decide)) (by decide) (iv_wk (iv_add b5_110 (iv_c (c := 1) (x := (1 : Int32)) (by decide)) (by decide) (by decide)) (by decide) (by decide) : iv 0 24 (y5_57 + (1 : Int32))).2) (show iv 0 63 y3_33 from b3_57) (iv_wk f891 (by decide) (by decide) : iv (-2147483648) 2147483647 ((ac_ga s33 44 (y5_57).toNatClampNeg) + (ac_ga s33 47 ((((64 : Int32) * (y2_27 + (1 : Int32))) + (y3_33 &&& ((ac_ga s33 43 (y5_57).toNatClampNeg) ^^^ (-1 : Int32))))).toNatClampNeg))) (iv_wk (iv_add b5_110 (iv_c (c := 1) (x := (1 : Int32)) (by decide)) (by decide) (by decide)) (by decide) (by decide) : iv 0 24 (y5_57 + (1 : Int32))))
              have K109 : iv 0 23 y5_57 → AT E 109 [(0, .ref (e_q E 30)), (1, .int x1), (2, .int y2_27), (3, .int y3_33), (4, .int y4_57), (5, .int y5_57)] [] s33 := by
                intro b5_109
                refine at_iconst C (0 : Int32) dX7_findWorths_109 (by decide) ?_
                exact at_sub [0, 1, 2, 3, 4, 5] rfl (K110 (0 : Int32) (show iv 0 23 y5_57 from b5_109) (iv_wk (iv_c (c := 0) (x := (0 : Int32)) (by decide)) (by decide) (by decide) : iv 0 1 (0 : Int32)))
              refine at_iload C 5 dX7_findWorths_57 rfl ?_
              refine at_aload_n C 0 dX7_findWorths_59 rfl ?_
              refine gf_X7_191 C dX7_findWorths_60 ?_
              refine at_icmp_ge C 176 dX7_findWorths_63 (by decide) (fun c892 => ?_) (fun c892 => ?_)
              · refine at_aload_n C 0 dX7_findWorths_176 rfl ?_
                refine gf_X7_72 C dX7_findWorths_177 ?_
                refine at_bipush C (64 : Int32) dX7_findWorths_180 (by decide) ?_
                refine at_iload_n C 2 dX7_findWorths_182 rfl ?_
                refine at_imul C dX7_findWorths_183 ?_
                refine at_iload_n C 3 dX7_findWorths_184 rfl ?_
                refine at_iadd C dX7_findWorths_185 ?_
                refine at_iload C 4 dX7_findWorths_186 rfl ?_
                refine at_iast C (c := 47) rfl (fun f => ac_ast_47 _ _ _ _ f) (iv_in (n := 448) (iv_add (iv_mul (iv_wk (c := 0) (iv_c (c := 64) (x := (64 : Int32)) (by decide)) (by decide) (Int.le_refl _)) b2_33 (by decide)) b3_57 (by decide) (by decide)) (by decide) (by decide)) dX7_findWorths_188 ?_
                have hG893 := Gd.sa (c := 47) (i := ((((64 : Int32) * y2_27) + y3_33)).toNatClampNeg) hG_33 rfl (show iv (-2147483648) 2147483647 y4_57 from b4_57)
                refine at_iinc C (v := (y3_33 + (1 : Int32))) (lv' := [(3, .int (y3_33 + (1 : Int32))), (0, .ref (e_q E 30)), (1, .int x1), (2, .int y2_27), (4, .int y4_57), (5, .int y5_57)]) 3 dX7_findWorths_189 rfl rfl hn3 rfl ?_
                refine at_goto C 33 dX7_findWorths_192 (by decide) ?_
                exact at_sub [1, 2, 3, 0] rfl (ih33 (y3_33 + (1 : Int32)) (ac_sa s33 47 (upd (ac_ga s33 47) ((((64 : Int32) * y2_27) + y3_33)).toNatClampNeg y4_57)) (mz_up hm33 (ac_ti1 b3_57 (iv_c (c := 1) (x := (1 : Int32)) (by decide)) (by decide) (by decide) (by decide)) (by decide) (iv_wk (iv_add b3_57 (iv_c (c := 1) (x := (1 : Int32)) (by decide)) (by decide) (by decide)) (by decide) (by decide) : iv 0 64 (y3_33 + (1 : Int32))).2) (show iv 0 5 y2_27 from b2_33) (iv_wk (iv_add b3_57 (iv_c (c := 1) (x := (1 : Int32)) (by decide)) (by decide) (by decide)) (by decide) (by decide) : iv 0 64 (y3_33 + (1 : Int32))) hG893)
              · have f894 : iv 0 23 y5_57 := (iv_ltl b5_57 (show iv 0 24 (ac_gi s33 26) from hG_33.1.1 26) (Int32.not_le.mp c892))
                have f895 : iv 1 24 (ac_gi s33 26) := (iv_ltr b5_57 (show iv 0 24 (ac_gi s33 26) from hG_33.1.1 26) (Int32.not_le.mp c892))
                refine at_aload_n C 0 dX7_findWorths_66 rfl ?_
                refine gf_X7_57 C dX7_findWorths_67 ?_
                refine at_iload C 5 dX7_findWorths_70 rfl ?_
                refine at_iald C (c := 42) rfl (iv_in (n := 24) f894 (by decide) (by decide)) dX7_findWorths_72 ?_
                refine at_iload_n C 2 dX7_findWorths_73 rfl ?_
                refine at_icmp_ne C 109 dX7_findWorths_74 (by decide) (fun c896 => ?_) (fun c896 => ?_)
                · exact at_sub [0, 1, 2, 3, 4, 5] rfl (K109 (show iv 0 23 y5_57 from f894))
                · have f897 : iv 0 5 (ac_ga s33 42 (y5_57).toNatClampNeg) := (iv_eql b2_33 c896)
                  refine at_iload_n C 1 dX7_findWorths_77 rfl ?_
                  refine at_iload_n C 2 dX7_findWorths_78 rfl ?_
                  refine at_ishr C dX7_findWorths_79 ?_
                  refine at_iconst C (1 : Int32) dX7_findWorths_80 (by decide) ?_
                  refine at_iand C dX7_findWorths_81 ?_
                  refine at_iconst C (1 : Int32) dX7_findWorths_82 (by decide) ?_
                  refine at_icmp_ne C 109 dX7_findWorths_83 (by decide) (fun c898 => ?_) (fun c898 => ?_)
                  · have f899 : iv 0 0 ((x1 >>> (y2_27 &&& 31)) &&& (1 : Int32)) := (iv_neh (iv_andr (iv_wk (c := 0) (iv_c (c := 1) (x := (1 : Int32)) (by decide)) (by decide) (Int.le_refl _))) (by decide) c898)
                    exact at_sub [0, 1, 2, 3, 4, 5] rfl (K109 (show iv 0 23 y5_57 from f894))
                  · have f900 : iv 1 1 ((x1 >>> (y2_27 &&& 31)) &&& (1 : Int32)) := (iv_eql (iv_c (c := 1) (x := (1 : Int32)) (by decide)) c898)
                    refine at_aload_n C 0 dX7_findWorths_86 rfl ?_
                    refine gf_X7_60 C dX7_findWorths_87 ?_
                    refine at_iload C 5 dX7_findWorths_90 rfl ?_
                    refine at_iald C (c := 43) rfl (iv_in (n := 24) f894 (by decide) (by decide)) dX7_findWorths_92 ?_
                    refine at_iload_n C 3 dX7_findWorths_93 rfl ?_
                    refine at_iand C dX7_findWorths_94 ?_
                    refine at_aload_n C 0 dX7_findWorths_95 rfl ?_
                    refine gf_X7_60 C dX7_findWorths_96 ?_
                    refine at_iload C 5 dX7_findWorths_99 rfl ?_
                    refine at_iald C (c := 43) rfl (iv_in (n := 24) f894 (by decide) (by decide)) dX7_findWorths_101 ?_
                    refine at_icmp_ne C 109 dX7_findWorths_102 (by decide) (fun c901 => ?_) (fun c901 => ?_)
                    · exact at_sub [0, 1, 2, 3, 4, 5] rfl (K109 (show iv 0 23 y5_57 from f894))
                    · have f902 : iv 0 63 (ac_ga s33 43 (y5_57).toNatClampNeg) := (iv_eqr (iv_andr b3_57) c901)
                      refine at_iconst C (1 : Int32) dX7_findWorths_105 (by decide) ?_
                      refine at_goto C 110 dX7_findWorths_106 (by decide) ?_
                      exact at_sub [0, 1, 2, 3, 4, 5] rfl (K110 (1 : Int32) (show iv 0 23 y5_57 from f894) (iv_wk (iv_c (c := 1) (x := (1 : Int32)) (by decide)) (by decide) (by decide) : iv 0 1 (1 : Int32)))
          refine at_iload_n C 3 dX7_findWorths_33 rfl ?_
          refine at_bipush C (64 : Int32) dX7_findWorths_34 (by decide) ?_
          refine at_icmp_ge C 195 dX7_findWorths_36 (by decide) (fun c903 => ?_) (fun c903 => ?_)
          · have f904 : iv 64 64 y3_33 := (iv_ler (iv_c (c := 64) (x := (64 : Int32)) (by decide)) b3_33 c903)
            refine at_iinc C (v := (y2_27 + (-1 : Int32))) (lv' := [(2, .int (y2_27 + (-1 : Int32))), (0, .ref (e_q E 30)), (1, .int x1), (3, .int y3_33)]) 2 dX7_findWorths_195 rfl rfl hn2 rfl ?_
            refine at_goto C 27 dX7_findWorths_198 (by decide) ?_
            exact at_sub [1, 2, 0] rfl (ih27 (y2_27 + (-1 : Int32)) s33 (mz_dn hm27 (mz_m1 b2_33 (by decide)) (iv_wk (iv_add b2_33 (iv_c (c := (-1)) (x := (-1 : Int32)) (by decide)) (by decide) (by decide)) (by decide) (by decide) : iv (-1) 5 (y2_27 + (-1 : Int32))).1) (iv_wk (iv_add b2_33 (iv_c (c := (-1)) (x := (-1 : Int32)) (by decide)) (by decide) (by decide)) (by decide) (by decide) : iv (-1) 5 (y2_27 + (-1 : Int32))) hG_33)
          · have f905 : iv 0 63 y3_33 := (iv_ltl b3_33 (iv_c (c := 64) (x := (64 : Int32)) (by decide)) (Int32.not_le.mp c903))
            refine at_aload_n C 0 dX7_findWorths_39 rfl ?_
            refine gf_X7_72 C dX7_findWorths_40 ?_
            refine at_bipush C (64 : Int32) dX7_findWorths_43 (by decide) ?_
            refine at_iload_n C 2 dX7_findWorths_45 rfl ?_
            refine at_iconst C (1 : Int32) dX7_findWorths_46 (by decide) ?_
            refine at_iadd C dX7_findWorths_47 ?_
            refine at_imul C dX7_findWorths_48 ?_
            refine at_iload_n C 3 dX7_findWorths_49 rfl ?_
            refine at_iadd C dX7_findWorths_50 ?_
            refine at_iald C (c := 47) rfl (iv_in (n := 448) (iv_add (iv_mul (iv_wk (c := 0) (iv_c (c := 64) (x := (64 : Int32)) (by decide)) (by decide) (Int.le_refl _)) (iv_wk (c := 0) (iv_add b2_33 (iv_c (c := 1) (x := (1 : Int32)) (by decide)) (by decide) (by decide)) (by decide) (Int.le_refl _)) (by decide)) f905 (by decide) (by decide)) (by decide) (by decide)) dX7_findWorths_51 ?_
            refine at_istore C (lv' := [(4, .int (ac_ga s33 47 ((((64 : Int32) * (y2_27 + (1 : Int32))) + y3_33)).toNatClampNeg)), (0, .ref (e_q E 30)), (1, .int x1), (2, .int y2_27), (3, .int y3_33)]) dX7_findWorths_52 hn4 rfl ?_
            refine at_iconst C (0 : Int32) dX7_findWorths_54 (by decide) ?_
            refine at_istore C (lv' := [(5, .int (0 : Int32)), (4, .int (ac_ga s33 47 ((((64 : Int32) * (y2_27 + (1 : Int32))) + y3_33)).toNatClampNeg)), (0, .ref (e_q E 30)), (1, .int x1), (2, .int y2_27), (3, .int y3_33)]) dX7_findWorths_55 hn5 rfl ?_
            exact at_sub [2, 3, 4, 5, 1, 0] rfl (K57 _ (ac_ga s33 47 ((((64 : Int32) * (y2_27 + (1 : Int32))) + y3_33)).toNatClampNeg) (0 : Int32) (Nat.lt_succ_self _) (show iv 0 63 y3_33 from f905) (show iv (-2147483648) 2147483647 (ac_ga s33 47 ((((64 : Int32) * (y2_27 + (1 : Int32))) + y3_33)).toNatClampNeg) from (iv_any (ac_ga s33 47 ((((64 : Int32) * (y2_27 + (1 : Int32))) + y3_33)).toNatClampNeg))) (iv_wk (iv_c (c := 0) (x := (0 : Int32)) (by decide)) (by decide) (by decide) : iv 0 24 (0 : Int32)))
      refine at_iload_n C 2 dX7_findWorths_27 rfl ?_
      refine at_if_lt C 201 dX7_findWorths_28 (by decide) (fun c906 => ?_) (fun c906 => ?_)
      · have f907 : iv (-1) (-1) y2_27 := (iv_ltl b2_27 (iv_c (c := 0) (x := (0 : Int32)) (by decide)) c906)
        exact hR _ _ _ dX7_findWorths_201 hG_27
      · have f908 : iv 0 5 y2_27 := (iv_ler (iv_c (c := 0) (x := (0 : Int32)) (by decide)) b2_27 (Int32.not_lt.mp c906))
        refine at_iconst C (0 : Int32) dX7_findWorths_31 (by decide) ?_
        refine at_istore_n C (lv' := [(3, .int (0 : Int32)), (0, .ref (e_q E 30)), (1, .int x1), (2, .int y2_27)]) dX7_findWorths_32 hn3 rfl ?_
        exact at_sub [1, 2, 3, 0] rfl (K33 _ (0 : Int32) s27 (Nat.lt_succ_self _) (show iv 0 5 y2_27 from f908) (iv_wk (iv_c (c := 0) (x := (0 : Int32)) (by decide)) (by decide) (by decide) : iv 0 64 (0 : Int32)) hG_27)
  have K2 : ∀ (n2 : Nat) (y2_2 : Int32) (s2 : SS), (64 - (y2_2).toInt).toNat < n2 → iv 0 64 y2_2 → Gd σ s2 → AT E 2 [(0, .ref (e_q E 30)), (1, .int x1), (2, .int y2_2)] [] s2 := by
    intro n2
    induction n2 with
    | zero => intro y2_2 s2 hm; exact absurd hm (Nat.not_lt_zero _)
    | succ n2 ih2 =>
      intro y2_2 s2 hm2 b2_2 hG_2
      refine at_iload_n C 2 dX7_findWorths_2 rfl ?_
      refine at_bipush C (64 : Int32) dX7_findWorths_3 (by decide) ?_
      refine at_icmp_ge C 25 dX7_findWorths_5 (by decide) (fun c909 => ?_) (fun c909 => ?_)
      · have f910 : iv 64 64 y2_2 := (iv_ler (iv_c (c := 64) (x := (64 : Int32)) (by decide)) b2_2 c909)
        refine at_iconst C (5 : Int32) dX7_findWorths_25 (by decide) ?_
        refine at_istore_n C (lv' := [(2, .int (5 : Int32)), (0, .ref (e_q E 30)), (1, .int x1)]) dX7_findWorths_26 hn2 rfl ?_
        exact at_sub [1, 2, 0] rfl (K27 _ (5 : Int32) s2 (Nat.lt_succ_self _) (iv_wk (iv_c (c := 5) (x := (5 : Int32)) (by decide)) (by decide) (by decide) : iv (-1) 5 (5 : Int32)) hG_2)
      · have f911 : iv 0 63 y2_2 := (iv_ltl b2_2 (iv_c (c := 64) (x := (64 : Int32)) (by decide)) (Int32.not_le.mp c909))
        refine at_aload_n C 0 dX7_findWorths_8 rfl ?_
        refine gf_X7_72 C dX7_findWorths_9 ?_
        refine at_sipush C (384 : Int32) dX7_findWorths_12 (by decide) ?_
        refine at_iload_n C 2 dX7_findWorths_15 rfl ?_
        refine at_iadd C dX7_findWorths_16 ?_
        refine at_iconst C (0 : Int32) dX7_findWorths_17 (by decide) ?_
        refine at_iast C (c := 47) rfl (fun f => ac_ast_47 _ _ _ _ f) (iv_in (n := 448) (iv_add (iv_c (c := 384) (x := (384 : Int32)) (by decide)) f911 (by decide) (by decide)) (by decide) (by decide)) dX7_findWorths_18 ?_
        have hG912 := Gd.sa (c := 47) (i := (((384 : Int32) + y2_2)).toNatClampNeg) hG_2 rfl (iv_wk (iv_c (c := 0) (x := (0 : Int32)) (by decide)) (by decide) (by decide) : iv (-2147483648) 2147483647 (0 : Int32))
        refine at_iinc C (v := (y2_2 + (1 : Int32))) (lv' := [(2, .int (y2_2 + (1 : Int32))), (0, .ref (e_q E 30)), (1, .int x1)]) 2 dX7_findWorths_19 rfl rfl hn2 rfl ?_
        refine at_goto C 2 dX7_findWorths_22 (by decide) ?_
        exact at_sub [1, 2, 0] rfl (ih2 (y2_2 + (1 : Int32)) (ac_sa s2 47 (upd (ac_ga s2 47) (((384 : Int32) + y2_2)).toNatClampNeg (0 : Int32))) (mz_up hm2 (ac_ti1 f911 (iv_c (c := 1) (x := (1 : Int32)) (by decide)) (by decide) (by decide) (by decide)) (by decide) (iv_wk (iv_add f911 (iv_c (c := 1) (x := (1 : Int32)) (by decide)) (by decide) (by decide)) (by decide) (by decide) : iv 0 64 (y2_2 + (1 : Int32))).2) (iv_wk (iv_add f911 (iv_c (c := 1) (x := (1 : Int32)) (by decide)) (by decide) (by decide)) (by decide) (by decide) : iv 0 64 (y2_2 + (1 : Int32))) hG912)
  refine at_iconst C (0 : Int32) dX7_findWorths_0 (by decide) ?_
  refine at_istore_n C (lv' := [(2, .int (0 : Int32)), (0, .ref (e_q E 30)), (1, .int x1)]) dX7_findWorths_1 hn2 rfl ?_
  exact at_sub [1, 2, 0] rfl (K2 _ (0 : Int32) σ (Nat.lt_succ_self _) (iv_wk (iv_c (c := 0) (x := (0 : Int32)) (by decide)) (by decide) (by decide) : iv 0 64 (0 : Int32)) hG0)
set_option maxHeartbeats 4000000 in
set_option maxRecDepth 100000 in
theorem ct_X7_findBest (σ : SS) (x1 : Int32) (hI : Inv σ) : ConV yX7_findBest cX7_findBest 9 none 1 (some 30) [.int x1] σ (fun σ' => Gd σ σ') := by
  refine conV_of (by decide) (fun q => Nat.le_of_ble_eq_true rfl) (fun E C en hR => ?_)
  have hn2 : 2 < e_n E := by rw [en]; decide
  have hn3 : 3 < e_n E := by rw [en]; decide
  have hn4 : 4 < e_n E := by rw [en]; decide
  have hn5 : 5 < e_n E := by rw [en]; decide
  have hn6 : 6 < e_n E := by rw [en]; decide
  have hn7 : 7 < e_n E := by rw [en]; decide
  have hn8 : 8 < e_n E := by rw [en]; decide
  have hG0 : Gd σ σ := Gd.rf hI
  have K21 : ∀ (n21 : Nat) (y2_21 : Int32) (y3_21 : Int32) (s21 : SS), (6 - (y3_21).toInt).toNat < n21 → iv 0 63 y2_21 → iv 0 6 y3_21 → Gd σ s21 → AT E 21 [(0, .ref (e_q E 30)), (1, .int x1), (2, .int y2_21), (3, .int y3_21)] [] s21 := by
    intro n21
    induction n21 with
    | zero => intro y2_21 y3_21 s21 hm; exact absurd hm (Nat.not_lt_zero _)
    | succ n21 ih21 =>
      intro y2_21 y3_21 s21 hm21 b2_21 b3_21 hG_21
      have K188 : ∀ (y5_188 : Int32), iv 0 5 y3_21 → iv (-1) 23 y5_188 → AT E 188 [(0, .ref (e_q E 30)), (1, .int x1), (2, .int y2_21), (3, .int y3_21), (5, .int y5_188)] [] s21 := by
        intro y5_188 b3_188 b5_188
        refine at_aload_n C 0 dX7_findBest_188 rfl ?_
        refine gf_X7_69 C dX7_findBest_189 ?_
        refine at_iload_n C 3 dX7_findBest_192 rfl ?_
        refine at_iload C 4 dX7_findBest_193 rfl ?_
        refine at_iast C (c := 46) rfl (fun f => ac_ast_46 _ _ _ _ f) (iv_in (n := 6) b3_188 (by decide) (by decide)) dX7_findBest_195 ?_
        have hG337 := Gd.sa (c := 46) (i := (y3_21).toNatClampNeg) hG_21 rfl (show iv (-1) 23 y5_188 from b5_188)
        refine at_iload_n C 2 dX7_findBest_196 rfl ?_
        refine at_iload C 4 dX7_findBest_197 rfl ?_
        refine at_if_ge C 207 dX7_findBest_199 (by decide) (fun c338 => ?_) (fun c338 => ?_)
        · have f339 : iv 0 23 y5_188 := (iv_ler (iv_c (c := 0) (x := (0 : Int32)) (by decide)) b5_188 c338)
          refine at_aload_n C 0 dX7_findBest_207 rfl ?_
          refine gf_X7_60 C dX7_findBest_208 ?_
          refine at_iload C 4 dX7_findBest_211 rfl ?_
          refine at_iald C (c := 43) rfl (iv_in (n := 24) f339 (by decide) (by decide)) dX7_findBest_213 ?_
          show AT E 214 [(0, .ref (e_q E 30)), (1, .int x1), (2, .int y2_21), (3, .int y3_21), (5, .int y5_188)] [.int (ac_ga s21 43 (y5_188).toNatClampNeg), .int y2_21] (ac_sa s21 46 (upd (ac_ga s21 46) (y3_21).toNatClampNeg y5_188))
          refine at_iconst C (-1 : Int32) dX7_findBest_214 (by decide) ?_
          refine at_ixor C dX7_findBest_215 ?_
          refine at_iand C dX7_findBest_216 ?_
          refine at_istore_n C (lv' := [(2, .int (y2_21 &&& ((ac_ga s21 43 (y5_188).toNatClampNeg) ^^^ (-1 : Int32)))), (0, .ref (e_q E 30)), (1, .int x1), (3, .int y3_21), (5, .int y5_188)]) dX7_findBest_217 hn2 rfl ?_
          refine at_iinc C (v := (y3_21 + (1 : Int32))) (lv' := [(3, .int (y3_21 + (1 : Int32))), (2, .int (y2_21 &&& ((ac_ga s21 43 (y5_188).toNatClampNeg) ^^^ (-1 : Int32)))), (0, .ref (e_q E 30)), (1, .int x1), (5, .int y5_188)]) 3 dX7_findBest_218 rfl rfl hn3 rfl ?_
          refine at_goto C 21 dX7_findBest_221 (by decide) ?_
          exact at_sub [2, 3, 1, 0] rfl (ih21 (y2_21 &&& ((ac_ga s21 43 (y5_188).toNatClampNeg) ^^^ (-1 : Int32))) (y3_21 + (1 : Int32)) (ac_sa s21 46 (upd (ac_ga s21 46) (y3_21).toNatClampNeg y5_188)) (mz_up hm21 (ac_ti1 b3_188 (iv_c (c := 1) (x := (1 : Int32)) (by decide)) (by decide) (by decide) (by decide)) (by decide) (iv_wk (iv_add b3_188 (iv_c (c := 1) (x := (1 : Int32)) (by decide)) (by decide) (by decide)) (by decide) (by decide) : iv 0 6 (y3_21 + (1 : Int32))).2) (show iv 0 63 (y2_21 &&& ((ac_ga s21 43 (y5_188).toNatClampNeg) ^^^ (-1 : Int32))) from (iv_andl b2_21)) (iv_wk (iv_add b3_188 (iv_c (c := 1) (x := (1 : Int32)) (by decide)) (by decide) (by decide)) (by decide) (by decide) : iv 0 6 (y3_21 + (1 : Int32))) hG337)
        · have f340 : iv (-1) (-1) y5_188 := (iv_ltl b5_188 (iv_c (c := 0) (x := (0 : Int32)) (by decide)) (Int32.not_le.mp c338))
          refine at_bipush C (63 : Int32) dX7_findBest_202 (by decide) ?_
          refine at_goto C 216 dX7_findBest_204 (by decide) ?_
          refine at_iand C dX7_findBest_216 ?_
          refine at_istore_n C (lv' := [(2, .int (y2_21 &&& (63 : Int32))), (0, .ref (e_q E 30)), (1, .int x1), (3, .int y3_21), (5, .int y5_188)]) dX7_findBest_217 hn2 rfl ?_
          refine at_iinc C (v := (y3_21 + (1 : Int32))) (lv' := [(3, .int (y3_21 + (1 : Int32))), (2, .int (y2_21 &&& (63 : Int32))), (0, .ref (e_q E 30)), (1, .int x1), (5, .int y5_188)]) 3 dX7_findBest_218 rfl rfl hn3 rfl ?_
          refine at_goto C 21 dX7_findBest_221 (by decide) ?_
          exact at_sub [2, 3, 1, 0] rfl (ih21 (y2_21 &&& (63 : Int32)) (y3_21 + (1 : Int32)) (ac_sa s21 46 (upd (ac_ga s21 46) (y3_21).toNatClampNeg y5_188)) (mz_up hm21 (ac_ti1 b3_188 (iv_c (c := 1) (x := (1 : Int32)) (by decide)) (by decide) (by decide) (by decide)) (by decide) (iv_wk (iv_add b3_188 (iv_c (c := 1) (x := (1 : Int32)) (by decide)) (by decide) (by decide)) (by decide) (by decide) : iv 0 6 (y3_21 + (1 : Int32))).2) (show iv 0 63 (y2_21 &&& (63 : Int32)) from (iv_andl b2_21)) (iv_wk (iv_add b3_188 (iv_c (c := 1) (x := (1 : Int32)) (by decide)) (by decide) (by decide)) (by decide) (by decide) : iv 0 6 (y3_21 + (1 : Int32))) hG337)
      have K76 : ∀ (n76 : Nat) (y4_76 : Int32) (y5_76 : Int32) (y6_76 : Int32) (y7_76 : Int32), ((y7_76).toInt - (-1)).toNat < n76 → iv 0 5 y3_21 → iv (-2147483648) 2147483647 y4_76 → iv (-1) 23 y5_76 → iv 0 1 y6_76 → iv (-1) 23 y7_76 → AT E 76 [(0, .ref (e_q E 30)), (1, .int x1), (2, .int y2_21), (3, .int y3_21), (4, .int y4_76), (5, .int y5_76), (6, .int y6_76), (7, .int y7_76)] [] s21 := by
        intro n76
        induction n76 with
        | zero => intro y4_76 y5_76 y6_76 y7_76 hm; exact absurd hm (Nat.not_lt_zero _)
        | succ n76 ih76 =>
          intro y4_76 y5_76 y6_76 y7_76 hm76 b3_76 b4_76 b5_76 b6_76 b7_76
          have K130 : ∀ (z0_130 : Int32), iv 0 0 y6_76 → iv 0 23 y7_76 → iv 0 1 z0_130 → AT E 130 [(0, .ref (e_q E 30)), (1, .int x1), (2, .int y2_21), (3, .int y3_21), (4, .int y4_76), (5, .int y5_76), (6, .int y6_76), (7, .int y7_76)] [.int z0_130] s21 := by
            intro z0_130 b6_130 b7_130 bz0_130
            refine at_istore C (lv' := [(8, .int z0_130), (0, .ref (e_q E 30)), (1, .int x1), (2, .int y2_21), (3, .int y3_21), (4, .int y4_76), (5, .int y5_76), (6, .int y6_76), (7, .int y7_76)]) dX7_findBest_130 hn8 rfl ?_
            refine at_iload C 0 dX7_findBest_132 rfl ?_
            refine at_if_eq C 178 dX7_findBest_134 (by decide) (fun c341 => ?_) (fun c341 => ?_)
            · have f342 : iv 0 0 z0_130 := (iv_eql (iv_c (c := 0) (x := (0 : Int32)) (by decide)) c341)
              refine at_iload C 6 dX7_findBest_178 rfl ?_
              refine at_istore C (lv' := [(5, .int y5_76), (8, .int z0_130), (0, .ref (e_q E 30)), (1, .int x1), (2, .int y2_21), (3, .int y3_21), (4, .int y4_76), (6, .int y6_76), (7, .int y7_76)]) dX7_findBest_180 hn5 rfl ?_
              refine at_iinc C (v := (y7_76 + (-1 : Int32))) (lv' := [(7, .int (y7_76 + (-1 : Int32))), (5, .int y5_76), (8, .int z0_130), (0, .ref (e_q E 30)), (1, .int x1), (2, .int y2_21), (3, .int y3_21), (4, .int y4_76), (6, .int y6_76)]) 8 dX7_findBest_182 rfl rfl hn7 rfl ?_
              refine at_goto C 76 dX7_findBest_185 (by decide) ?_
              exact at_sub [3, 4, 5, 6, 7, 1, 8, 0] rfl (ih76 y4_76 y5_76 y6_76 (y7_76 + (-1 : Int32)) (mz_dn hm76 (mz_m1 b7_130 (by decide)) (iv_wk (iv_add b7_130 (iv_c (c := (-1)) (x := (-1 : Int32)) (by decide)) (by decide) (by decide)) (by decide) (by decide) : iv (-1) 23 (y7_76 + (-1 : Int32))).1) (show iv 0 5 y3_21 from b3_76) (show iv (-2147483648) 2147483647 y4_76 from b4_76) (show iv (-1) 23 y5_76 from b5_76) (iv_wk b6_130 (by decide) (by decide) : iv 0 1 y6_76) (iv_wk (iv_add b7_130 (iv_c (c := (-1)) (x := (-1 : Int32)) (by decide)) (by decide) (by decide)) (by decide) (by decide) : iv (-1) 23 (y7_76 + (-1 : Int32))))
            · have f343 : iv 1 1 z0_130 := (iv_nel bz0_130 (by decide) c341)
              refine at_aload_n C 1 dX7_findBest_137 rfl ?_
              refine gf_X7_63 C dX7_findBest_138 ?_
              refine at_iload C 8 dX7_findBest_141 rfl ?_
              refine at_iald C (c := 44) rfl (iv_in (n := 24) b7_130 (by decide) (by decide)) dX7_findBest_143 ?_
              refine at_aload_n C 1 dX7_findBest_144 rfl ?_
              refine gf_X7_72 C dX7_findBest_145 ?_
              refine at_bipush C (64 : Int32) dX7_findBest_148 (by decide) ?_
              refine at_iload_n C 4 dX7_findBest_150 rfl ?_
              refine at_iconst C (1 : Int32) dX7_findBest_151 (by decide) ?_
              refine at_iadd C dX7_findBest_152 ?_
              refine at_imul C dX7_findBest_153 ?_
              refine at_iload_n C 3 dX7_findBest_154 rfl ?_
              refine at_aload_n C 1 dX7_findBest_155 rfl ?_
              refine gf_X7_60 C dX7_findBest_156 ?_
              refine at_iload C 8 dX7_findBest_159 rfl ?_
              refine at_iald C (c := 43) rfl (iv_in (n := 24) b7_130 (by decide) (by decide)) dX7_findBest_161 ?_
              refine at_iconst C (-1 : Int32) dX7_findBest_162 (by decide) ?_
              refine at_ixor C dX7_findBest_163 ?_
              refine at_iand C dX7_findBest_164 ?_
              refine at_iadd C dX7_findBest_165 ?_
              refine at_iald C (c := 47) rfl (iv_in (n := 448) (iv_add (iv_mul (iv_wk (c := 0) (iv_c (c := 64) (x := (64 : Int32)) (by decide)) (by decide) (Int.le_refl _)) (iv_wk (c := 0) (iv_add b3_76 (iv_c (c := 1) (x := (1 : Int32)) (by decide)) (by decide) (by decide)) (by decide) (Int.le_refl _)) (by decide)) (iv_andl b2_21) (by decide) (by decide)) (by decide) (by decide)) dX7_findBest_166 ?_
              refine at_iadd C dX7_findBest_167 ?_
              refine at_iload C 5 dX7_findBest_168 rfl ?_
              refine at_icmp_ne C 178 dX7_findBest_170 (by decide) (fun c344 => ?_) (fun c344 => ?_)
              · refine at_iload C 6 dX7_findBest_178 rfl ?_
                refine at_istore C (lv' := [(5, .int y5_76), (8, .int z0_130), (0, .ref (e_q E 30)), (1, .int x1), (2, .int y2_21), (3, .int y3_21), (4, .int y4_76), (6, .int y6_76), (7, .int y7_76)]) dX7_findBest_180 hn5 rfl ?_
                refine at_iinc C (v := (y7_76 + (-1 : Int32))) (lv' := [(7, .int (y7_76 + (-1 : Int32))), (5, .int y5_76), (8, .int z0_130), (0, .ref (e_q E 30)), (1, .int x1), (2, .int y2_21), (3, .int y3_21), (4, .int y4_76), (6, .int y6_76)]) 8 dX7_findBest_182 rfl rfl hn7 rfl ?_
                refine at_goto C 76 dX7_findBest_185 (by decide) ?_
                exact at_sub [3, 4, 5, 6, 7, 1, 8, 0] rfl (ih76 y4_76 y5_76 y6_76 (y7_76 + (-1 : Int32)) (mz_dn hm76 (mz_m1 b7_130 (by decide)) (iv_wk (iv_add b7_130 (iv_c (c := (-1)) (x := (-1 : Int32)) (by decide)) (by decide) (by decide)) (by decide) (by decide) : iv (-1) 23 (y7_76 + (-1 : Int32))).1) (show iv 0 5 y3_21 from b3_76) (show iv (-2147483648) 2147483647 y4_76 from b4_76) (show iv (-1) 23 y5_76 from b5_76) (iv_wk b6_130 (by decide) (by decide) : iv 0 1 y6_76) (iv_wk (iv_add b7_130 (iv_c (c := (-1)) (x := (-1 : Int32)) (by decide)) (by decide) (by decide)) (by decide) (by decide) : iv (-1) 23 (y7_76 + (-1 : Int32))))
              · refine at_iload C 8 dX7_findBest_173 rfl ?_
                refine at_goto C 180 dX7_findBest_175 (by decide) ?_
                refine at_istore C (lv' := [(5, .int y7_76), (8, .int z0_130), (0, .ref (e_q E 30)), (1, .int x1), (2, .int y2_21), (3, .int y3_21), (4, .int y4_76), (6, .int y6_76), (7, .int y7_76)]) dX7_findBest_180 hn5 rfl ?_
                refine at_iinc C (v := (y7_76 + (-1 : Int32))) (lv' := [(7, .int (y7_76 + (-1 : Int32))), (5, .int y7_76), (8, .int z0_130), (0, .ref (e_q E 30)), (1, .int x1), (2, .int y2_21), (3, .int y3_21), (4, .int y4_76), (6, .int y6_76)]) 8 dX7_findBest_182 rfl rfl hn7 rfl ?_
                refine at_goto C 76 dX7_findBest_185 (by decide) ?_
                exact at_sub [3, 4, 5, 6, 7, 1, 8, 0] rfl (ih76 y4_76 y7_76 y6_76 (y7_76 + (-1 : Int32)) (mz_dn hm76 (mz_m1 b7_130 (by decide)) (iv_wk (iv_add b7_130 (iv_c (c := (-1)) (x := (-1 : Int32)) (by decide)) (by decide) (by decide)) (by decide) (by decide) : iv (-1) 23 (y7_76 + (-1 : Int32))).1) (show iv 0 5 y3_21 from b3_76) (show iv (-2147483648) 2147483647 y4_76 from b4_76) (iv_wk b7_130 (by decide) (by decide) : iv (-1) 23 y7_76) (iv_wk b6_130 (by decide) (by decide) : iv 0 1 y6_76) (iv_wk (iv_add b7_130 (iv_c (c := (-1)) (x := (-1 : Int32)) (by decide)) (by decide) (by decide)) (by decide) (by decide) : iv (-1) 23 (y7_76 + (-1 : Int32))))
          have K129 : iv 0 0 y6_76 → iv 0 23 y7_76 → AT E 129 [(0, .ref (e_q E 30)), (1, .int x1), (2, .int y2_21), (3, .int y3_21), (4, .int y4_76), (5, .int y5_76), (6, .int y6_76), (7, .int y7_76)] [] s21 := by
            intro b6_129 b7_129
            refine at_iconst C (0 : Int32) dX7_findBest_129 (by decide) ?_
            exact at_sub [0, 1, 2, 3, 4, 5, 6, 7] rfl (K130 (0 : Int32) (show iv 0 0 y6_76 from b6_129) (show iv 0 23 y7_76 from b7_129) (iv_wk (iv_c (c := 0) (x := (0 : Int32)) (by decide)) (by decide) (by decide) : iv 0 1 (0 : Int32)))
          refine at_iload C 7 dX7_findBest_76 rfl ?_
          refine at_if_lt C 188 dX7_findBest_78 (by decide) (fun c345 => ?_) (fun c345 => ?_)
          · have f346 : iv (-1) (-1) y7_76 := (iv_ltl b7_76 (iv_c (c := 0) (x := (0 : Int32)) (by decide)) c345)
            exact at_sub [0, 1, 2, 3, 5] rfl (K188 y5_76 (show iv 0 5 y3_21 from b3_76) (show iv (-1) 23 y5_76 from b5_76))
          · have f347 : iv 0 23 y7_76 := (iv_ler (iv_c (c := 0) (x := (0 : Int32)) (by decide)) b7_76 (Int32.not_lt.mp c345))
            refine at_iload C 6 dX7_findBest_81 rfl ?_
            refine at_if_ne C 188 dX7_findBest_83 (by decide) (fun c348 => ?_) (fun c348 => ?_)
            · have f349 : iv 1 1 y6_76 := (iv_nel b6_76 (by decide) c348)
              exact at_sub [0, 1, 2, 3, 5] rfl (K188 y5_76 (show iv 0 5 y3_21 from b3_76) (show iv (-1) 23 y5_76 from b5_76))
            · have f350 : iv 0 0 y6_76 := (iv_eql (iv_c (c := 0) (x := (0 : Int32)) (by decide)) c348)
              refine at_aload_n C 0 dX7_findBest_86 rfl ?_
              refine gf_X7_57 C dX7_findBest_87 ?_
              refine at_iload C 7 dX7_findBest_90 rfl ?_
              refine at_iald C (c := 42) rfl (iv_in (n := 24) f347 (by decide) (by decide)) dX7_findBest_92 ?_
              refine at_iload_n C 3 dX7_findBest_93 rfl ?_
              refine at_icmp_ne C 129 dX7_findBest_94 (by decide) (fun c351 => ?_) (fun c351 => ?_)
              · exact at_sub [0, 1, 2, 3, 4, 5, 6, 7] rfl (K129 (show iv 0 0 y6_76 from f350) (show iv 0 23 y7_76 from f347))
              · have f352 : iv 0 5 (ac_ga s21 42 (y7_76).toNatClampNeg) := (iv_eql b3_76 c351)
                refine at_iload_n C 1 dX7_findBest_97 rfl ?_
                refine at_iload_n C 3 dX7_findBest_98 rfl ?_
                refine at_ishr C dX7_findBest_99 ?_
                refine at_iconst C (1 : Int32) dX7_findBest_100 (by decide) ?_
                refine at_iand C dX7_findBest_101 ?_
                refine at_iconst C (1 : Int32) dX7_findBest_102 (by decide) ?_
                refine at_icmp_ne C 129 dX7_findBest_103 (by decide) (fun c353 => ?_) (fun c353 => ?_)
                · have f354 : iv 0 0 ((x1 >>> (y3_21 &&& 31)) &&& (1 : Int32)) := (iv_neh (iv_andr (iv_wk (c := 0) (iv_c (c := 1) (x := (1 : Int32)) (by decide)) (by decide) (Int.le_refl _))) (by decide) c353)
                  exact at_sub [0, 1, 2, 3, 4, 5, 6, 7] rfl (K129 (show iv 0 0 y6_76 from f350) (show iv 0 23 y7_76 from f347))
                · have f355 : iv 1 1 ((x1 >>> (y3_21 &&& 31)) &&& (1 : Int32)) := (iv_eql (iv_c (c := 1) (x := (1 : Int32)) (by decide)) c353)
                  refine at_aload_n C 0 dX7_findBest_106 rfl ?_
                  refine gf_X7_60 C dX7_findBest_107 ?_
                  refine at_iload C 7 dX7_findBest_110 rfl ?_
                  refine at_iald C (c := 43) rfl (iv_in (n := 24) f347 (by decide) (by decide)) dX7_findBest_112 ?_
                  refine at_iload_n C 2 dX7_findBest_113 rfl ?_
                  refine at_iand C dX7_findBest_114 ?_
                  refine at_aload_n C 0 dX7_findBest_115 rfl ?_
                  refine gf_X7_60 C dX7_findBest_116 ?_
                  refine at_iload C 7 dX7_findBest_119 rfl ?_
                  refine at_iald C (c := 43) rfl (iv_in (n := 24) f347 (by decide) (by decide)) dX7_findBest_121 ?_
                  refine at_icmp_ne C 129 dX7_findBest_122 (by decide) (fun c356 => ?_) (fun c356 => ?_)
                  · exact at_sub [0, 1, 2, 3, 4, 5, 6, 7] rfl (K129 (show iv 0 0 y6_76 from f350) (show iv 0 23 y7_76 from f347))
                  · have f357 : iv 0 63 (ac_ga s21 43 (y7_76).toNatClampNeg) := (iv_eqr (iv_andr b2_21) c356)
                    refine at_iconst C (1 : Int32) dX7_findBest_125 (by decide) ?_
                    refine at_goto C 130 dX7_findBest_126 (by decide) ?_
                    exact at_sub [0, 1, 2, 3, 4, 5, 6, 7] rfl (K130 (1 : Int32) (show iv 0 0 y6_76 from f350) (show iv 0 23 y7_76 from f347) (iv_wk (iv_c (c := 1) (x := (1 : Int32)) (by decide)) (by decide) (by decide) : iv 0 1 (1 : Int32)))
      refine at_iload_n C 3 dX7_findBest_21 rfl ?_
      refine at_bipush C (6 : Int32) dX7_findBest_22 (by decide) ?_
      refine at_icmp_ge C 224 dX7_findBest_24 (by decide) (fun c358 => ?_) (fun c358 => ?_)
      · have f359 : iv 6 6 y3_21 := (iv_ler (iv_c (c := 6) (x := (6 : Int32)) (by decide)) b3_21 c358)
        exact hR _ _ _ dX7_findBest_224 hG_21
      · have f360 : iv 0 5 y3_21 := (iv_ltl b3_21 (iv_c (c := 6) (x := (6 : Int32)) (by decide)) (Int32.not_le.mp c358))
        refine at_aload_n C 0 dX7_findBest_27 rfl ?_
        refine gf_X7_72 C dX7_findBest_28 ?_
        refine at_bipush C (64 : Int32) dX7_findBest_31 (by decide) ?_
        refine at_iload_n C 3 dX7_findBest_33 rfl ?_
        refine at_imul C dX7_findBest_34 ?_
        refine at_iload_n C 2 dX7_findBest_35 rfl ?_
        refine at_iadd C dX7_findBest_36 ?_
        refine at_iald C (c := 47) rfl (iv_in (n := 448) (iv_add (iv_mul (iv_wk (c := 0) (iv_c (c := 64) (x := (64 : Int32)) (by decide)) (by decide) (Int.le_refl _)) f360 (by decide)) b2_21 (by decide) (by decide)) (by decide) (by decide)) dX7_findBest_37 ?_
        refine at_istore C (lv' := [(4, .int (ac_ga s21 47 ((((64 : Int32) * y3_21) + y2_21)).toNatClampNeg)), (0, .ref (e_q E 30)), (1, .int x1), (2, .int y2_21), (3, .int y3_21)]) dX7_findBest_38 hn4 rfl ?_
        refine at_iconst C (-1 : Int32) dX7_findBest_40 (by decide) ?_
        refine at_istore C (lv' := [(5, .int (-1 : Int32)), (4, .int (ac_ga s21 47 ((((64 : Int32) * y3_21) + y2_21)).toNatClampNeg)), (0, .ref (e_q E 30)), (1, .int x1), (2, .int y2_21), (3, .int y3_21)]) dX7_findBest_41 hn5 rfl ?_
        refine at_aload_n C 2 dX7_findBest_43 rfl ?_
        refine gf_X7_72 C dX7_findBest_44 ?_
        refine at_bipush C (64 : Int32) dX7_findBest_47 (by decide) ?_
        refine at_iload_n C 5 dX7_findBest_49 rfl ?_
        refine at_iconst C (1 : Int32) dX7_findBest_50 (by decide) ?_
        refine at_iadd C dX7_findBest_51 ?_
        refine at_imul C dX7_findBest_52 ?_
        refine at_iload_n C 4 dX7_findBest_53 rfl ?_
        refine at_iadd C dX7_findBest_54 ?_
        refine at_iald C (c := 47) rfl (iv_in (n := 448) (iv_add (iv_mul (iv_wk (c := 0) (iv_c (c := 64) (x := (64 : Int32)) (by decide)) (by decide) (Int.le_refl _)) (iv_wk (c := 0) (iv_add f360 (iv_c (c := 1) (x := (1 : Int32)) (by decide)) (by decide) (by decide)) (by decide) (Int.le_refl _)) (by decide)) b2_21 (by decide) (by decide)) (by decide) (by decide)) dX7_findBest_55 ?_
        refine at_iload C 1 dX7_findBest_56 rfl ?_
        refine at_icmp_ne C 65 dX7_findBest_58 (by decide) (fun c361 => ?_) (fun c361 => ?_)
        · refine at_iconst C (0 : Int32) dX7_findBest_65 (by decide) ?_
          refine at_istore C (lv' := [(6, .int (0 : Int32)), (5, .int (-1 : Int32)), (4, .int (ac_ga s21 47 ((((64 : Int32) * y3_21) + y2_21)).toNatClampNeg)), (0, .ref (e_q E 30)), (1, .int x1), (2, .int y2_21), (3, .int y3_21)]) dX7_findBest_66 hn6 rfl ?_
          refine at_aload_n C 3 dX7_findBest_68 rfl ?_
          refine gf_X7_191 C dX7_findBest_69 ?_
          refine at_iconst C (1 : Int32) dX7_findBest_72 (by decide) ?_
          refine at_isub C dX7_findBest_73 ?_
          refine at_istore C (lv' := [(7, .int ((ac_gi s21 26) - (1 : Int32))), (6, .int (0 : Int32)), (5, .int (-1 : Int32)), (4, .int (ac_ga s21 47 ((((64 : Int32) * y3_21) + y2_21)).toNatClampNeg)), (0, .ref (e_q E 30)), (1, .int x1), (2, .int y2_21), (3, .int y3_21)]) dX7_findBest_74 hn7 rfl ?_
          exact at_sub [4, 5, 6, 7, 3, 2, 1, 0] rfl (K76 _ (ac_ga s21 47 ((((64 : Int32) * y3_21) + y2_21)).toNatClampNeg) (-1 : Int32) (0 : Int32) ((ac_gi s21 26) - (1 : Int32)) (Nat.lt_succ_self _) (show iv 0 5 y3_21 from f360) (show iv (-2147483648) 2147483647 (ac_ga s21 47 ((((64 : Int32) * y3_21) + y2_21)).toNatClampNeg) from (iv_any (ac_ga s21 47 ((((64 : Int32) * y3_21) + y2_21)).toNatClampNeg))) (iv_wk (iv_c (c := (-1)) (x := (-1 : Int32)) (by decide)) (by decide) (by decide) : iv (-1) 23 (-1 : Int32)) (iv_wk (iv_c (c := 0) (x := (0 : Int32)) (by decide)) (by decide) (by decide) : iv 0 1 (0 : Int32)) (show iv (-1) 23 ((ac_gi s21 26) - (1 : Int32)) from (iv_sub (show iv 0 24 (ac_gi s21 26) from hG_21.1.1 26) (iv_c (c := 1) (x := (1 : Int32)) (by decide)) (by decide) (by decide))))
        · refine at_iconst C (1 : Int32) dX7_findBest_61 (by decide) ?_
          refine at_goto C 66 dX7_findBest_62 (by decide) ?_
          refine at_istore C (lv' := [(6, .int (1 : Int32)), (5, .int (-1 : Int32)), (4, .int (ac_ga s21 47 ((((64 : Int32) * y3_21) + y2_21)).toNatClampNeg)), (0, .ref (e_q E 30)), (1, .int x1), (2, .int y2_21), (3, .int y3_21)]) dX7_findBest_66 hn6 rfl ?_
          refine at_aload_n C 3 dX7_findBest_68 rfl ?_
          refine gf_X7_191 C dX7_findBest_69 ?_
          refine at_iconst C (1 : Int32) dX7_findBest_72 (by decide) ?_
          refine at_isub C dX7_findBest_73 ?_
          refine at_istore C (lv' := [(7, .int ((ac_gi s21 26) - (1 : Int32))), (6, .int (1 : Int32)), (5, .int (-1 : Int32)), (4, .int (ac_ga s21 47 ((((64 : Int32) * y3_21) + y2_21)).toNatClampNeg)), (0, .ref (e_q E 30)), (1, .int x1), (2, .int y2_21), (3, .int y3_21)]) dX7_findBest_74 hn7 rfl ?_
          exact at_sub [4, 5, 6, 7, 3, 2, 1, 0] rfl (K76 _ (ac_ga s21 47 ((((64 : Int32) * y3_21) + y2_21)).toNatClampNeg) (-1 : Int32) (1 : Int32) ((ac_gi s21 26) - (1 : Int32)) (Nat.lt_succ_self _) (show iv 0 5 y3_21 from f360) (show iv (-2147483648) 2147483647 (ac_ga s21 47 ((((64 : Int32) * y3_21) + y2_21)).toNatClampNeg) from (iv_any (ac_ga s21 47 ((((64 : Int32) * y3_21) + y2_21)).toNatClampNeg))) (iv_wk (iv_c (c := (-1)) (x := (-1 : Int32)) (by decide)) (by decide) (by decide) : iv (-1) 23 (-1 : Int32)) (iv_wk (iv_c (c := 1) (x := (1 : Int32)) (by decide)) (by decide) (by decide) : iv 0 1 (1 : Int32)) (show iv (-1) 23 ((ac_gi s21 26) - (1 : Int32)) from (iv_sub (show iv 0 24 (ac_gi s21 26) from hG_21.1.1 26) (iv_c (c := 1) (x := (1 : Int32)) (by decide)) (by decide) (by decide))))
  refine at_aload_n C 0 dX7_findBest_0 rfl ?_
  refine at_iload_n C 1 dX7_findBest_1 rfl ?_
  refine at_Vv C (As := [.int x1]) (st := []) (b := 30) (ci := 7) (ct_X7_findWorths σ x1 hI) mb_X7_findWorths ml_X7_194 rfl rfl rfl (by decide) rfl (Nat.le_of_ble_eq_true rfl) dX7_findBest_2 ?_
  rintro u362 hg363
  have hG364 := hG0.tr hg363
  refine at_aload_n C 0 dX7_findBest_5 rfl ?_
  refine at_aload_n C 0 dX7_findBest_6 rfl ?_
  refine gf_X7_72 C dX7_findBest_7 ?_
  refine at_bipush C (63 : Int32) dX7_findBest_10 (by decide) ?_
  refine at_iald C (c := 47) rfl (iv_in (n := 448) (iv_c (c := 63) (x := (63 : Int32)) (by decide)) (by decide) (by decide)) dX7_findBest_12 ?_
  refine pf_X7_197 C dX7_findBest_13 ?_
  have hG365 := Gd.si (k := 27) hG364 rfl (show iv (-2147483648) 2147483647 (ac_ga u362 47 ((63 : Int32)).toNatClampNeg) from (iv_any (ac_ga u362 47 ((63 : Int32)).toNatClampNeg)))
  refine at_bipush C (63 : Int32) dX7_findBest_16 (by decide) ?_
  refine at_istore_n C (lv' := [(2, .int (63 : Int32)), (0, .ref (e_q E 30)), (1, .int x1)]) dX7_findBest_18 hn2 rfl ?_
  refine at_iconst C (0 : Int32) dX7_findBest_19 (by decide) ?_
  refine at_istore_n C (lv' := [(3, .int (0 : Int32)), (2, .int (63 : Int32)), (0, .ref (e_q E 30)), (1, .int x1)]) dX7_findBest_20 hn3 rfl ?_
  exact at_sub [2, 3, 1, 0] rfl (K21 _ (63 : Int32) (0 : Int32) (ac_si u362 27 (ac_ga u362 47 ((63 : Int32)).toNatClampNeg)) (Nat.lt_succ_self _) (iv_wk (iv_c (c := 63) (x := (63 : Int32)) (by decide)) (by decide) (by decide) : iv 0 63 (63 : Int32)) (iv_wk (iv_c (c := 0) (x := (0 : Int32)) (by decide)) (by decide) (by decide) : iv 0 6 (0 : Int32)) hG365)
set_option maxHeartbeats 4000000 in
set_option maxRecDepth 100000 in
theorem ct_X7_best (σ : SS) (x1 : Int32) (x2 : Int32) (hI : Inv σ) : ConI yX7_best cX7_best 3 (some .int) 2 (some 30) [.int x1, .int x2] σ (fun r σ' => Gd σ σ' ∧ iv (-2147483648) 2147483647 r) := by
  refine conI_of (by decide) (fun q => Nat.le_of_ble_eq_true rfl) (fun E C en hR => ?_)
  have hG0 : Gd σ σ := Gd.rf hI
  have K37 : iv 0 63 x1 → iv (-1) 5 x2 → AT E 37 [(0, .ref (e_q E 30)), (1, .int x1), (2, .int x2)] [] σ := by
    intro b1_37 b2_37
    refine at_aload_n C 0 dX7_best_37 rfl ?_
    refine at_iload_n C 1 dX7_best_38 rfl ?_
    refine at_Vv C (As := [.int x1]) (st := []) (b := 30) (ci := 7) (ct_X7_findBest σ x1 hI) mb_X7_findBest ml_X7_203 rfl rfl rfl (by decide) rfl (Nat.le_of_ble_eq_true rfl) dX7_best_39 ?_
    rintro u201 hg202
    have hG203 := hG0.tr hg202
    refine at_iload_n C 2 dX7_best_42 rfl ?_
    refine at_iconst C (-1 : Int32) dX7_best_43 (by decide) ?_
    refine at_icmp_ne C 54 dX7_best_44 (by decide) (fun c204 => ?_) (fun c204 => ?_)
    · have f205 : iv 0 5 x2 := (iv_nel b2_37 (by decide) c204)
      refine at_aload_n C 0 dX7_best_54 rfl ?_
      refine gf_X7_69 C dX7_best_55 ?_
      refine at_iload_n C 2 dX7_best_58 rfl ?_
      refine at_iald C (c := 46) rfl (iv_in (n := 6) f205 (by decide) (by decide)) dX7_best_59 ?_
      exact hR _ _ _ _ dX7_best_60 ⟨hG203, (iv_wk (show iv (-1) 23 (ac_ga u201 46 (x2).toNatClampNeg) from hg202.1.2 46 _) (by decide) (by decide) : iv (-2147483648) 2147483647 (ac_ga u201 46 (x2).toNatClampNeg))⟩
    · have f206 : iv (-1) (-1) x2 := (iv_eql (iv_c (c := (-1)) (x := (-1 : Int32)) (by decide)) c204)
      refine at_aload_n C 0 dX7_best_47 rfl ?_
      refine gf_X7_197 C dX7_best_48 ?_
      refine at_goto C 60 dX7_best_51 (by decide) ?_
      exact hR _ _ _ _ dX7_best_60 ⟨hG203, (show iv (-2147483648) 2147483647 (ac_gi u201 27) from (iv_any (ac_gi u201 27)))⟩
  refine at_aload_n C 0 dX7_best_0 rfl ?_
  refine at_iload_n C 1 dX7_best_1 rfl ?_
  refine at_Vi C (As := [.int x1]) (st := []) (b := 30) (ci := 7) (ct_X7_noGroup σ x1 hI) mb_X7_noGroup ml_X7_200 rfl rfl rfl (by decide) rfl (Nat.le_of_ble_eq_true rfl) dX7_best_2 ?_
  rintro _ _ ⟨rfl, ⟨rfl, c207⟩ | ⟨rfl, c207⟩⟩
  · refine at_if_ne C 34 dX7_best_5 (by decide) (fun c209 => ?_) (fun c209 => absurd c209 (iv_xeq (iv_c (c := 1) (x := (1 : Int32)) (by decide)) (iv_c (c := 0) (x := (0 : Int32)) (by decide)) (by decide)))
    refine at_bipush C (-10 : Int32) dX7_best_34 (by decide) ?_
    exact hR _ _ _ _ dX7_best_36 ⟨hG0, (iv_wk (iv_c (c := (-10)) (x := (-10 : Int32)) (by decide)) (by decide) (by decide) : iv (-2147483648) 2147483647 (-10 : Int32))⟩
  · have f210 : iv 0 63 x1 := (iv_of3 (Classical.not_not.mp c207) (iv_shl1 (a := 0) (b := 6) (show iv 0 6 (ac_gi σ 25) from hI.1 25) (by decide)))
    refine at_if_ne C 34 dX7_best_5 (by decide) (fun c211 => absurd (iv_xne (iv_c (c := 0) (x := (0 : Int32)) (by decide)) (iv_c (c := 0) (x := (0 : Int32)) (by decide))) c211) (fun c211 => ?_)
    refine at_iload_n C 2 dX7_best_8 rfl ?_
    refine at_iconst C (-1 : Int32) dX7_best_9 (by decide) ?_
    refine at_icmp_lt C 34 dX7_best_10 (by decide) (fun c212 => ?_) (fun c212 => ?_)
    · have f213 : iv (-2147483648) (-2) x2 := (iv_ltl (iv_any x2) (iv_c (c := (-1)) (x := (-1 : Int32)) (by decide)) c212)
      refine at_bipush C (-10 : Int32) dX7_best_34 (by decide) ?_
      exact hR _ _ _ _ dX7_best_36 ⟨hG0, (iv_wk (iv_c (c := (-10)) (x := (-10 : Int32)) (by decide)) (by decide) (by decide) : iv (-2147483648) 2147483647 (-10 : Int32))⟩
    · have f214 : iv (-1) 2147483647 x2 := (iv_ler (iv_c (c := (-1)) (x := (-1 : Int32)) (by decide)) (iv_any x2) (Int32.not_lt.mp c212))
      refine at_iload_n C 2 dX7_best_13 rfl ?_
      refine at_iconst C (-1 : Int32) dX7_best_14 (by decide) ?_
      refine at_icmp_eq C 37 dX7_best_15 (by decide) (fun c215 => ?_) (fun c215 => ?_)
      · have f216 : iv (-1) (-1) x2 := (iv_eql (iv_c (c := (-1)) (x := (-1 : Int32)) (by decide)) c215)
        exact at_sub [0, 1, 2] rfl (K37 (show iv 0 63 x1 from f210) (iv_wk f216 (by decide) (by decide) : iv (-1) 5 x2))
      · have f217 : iv 0 2147483647 x2 := (iv_nel f214 (by decide) c215)
        refine at_aload_n C 0 dX7_best_18 rfl ?_
        refine at_iload_n C 2 dX7_best_19 rfl ?_
        refine at_Vi C (As := [.int x2]) (st := []) (b := 30) (ci := 7) (ct_X7_noHouse σ x2 hI) mb_X7_noHouse ml_X7_186 rfl rfl rfl (by decide) rfl (Nat.le_of_ble_eq_true rfl) dX7_best_20 ?_
        rintro _ _ ⟨rfl, ⟨rfl, c218⟩ | ⟨rfl, c218⟩⟩
        · refine at_if_ne C 34 dX7_best_23 (by decide) (fun c220 => ?_) (fun c220 => absurd c220 (iv_xeq (iv_c (c := 1) (x := (1 : Int32)) (by decide)) (iv_c (c := 0) (x := (0 : Int32)) (by decide)) (by decide)))
          refine at_bipush C (-10 : Int32) dX7_best_34 (by decide) ?_
          exact hR _ _ _ _ dX7_best_36 ⟨hG0, (iv_wk (iv_c (c := (-10)) (x := (-10 : Int32)) (by decide)) (by decide) (by decide) : iv (-2147483648) 2147483647 (-10 : Int32))⟩
        · have f221 : iv 0 5 x2 := (iv_of3 (Classical.not_not.mp c218) (show iv 0 6 (ac_gi σ 25) from hI.1 25))
          refine at_if_ne C 34 dX7_best_23 (by decide) (fun c222 => absurd (iv_xne (iv_c (c := 0) (x := (0 : Int32)) (by decide)) (iv_c (c := 0) (x := (0 : Int32)) (by decide))) c222) (fun c222 => ?_)
          refine at_iload_n C 1 dX7_best_26 rfl ?_
          refine at_iload_n C 2 dX7_best_27 rfl ?_
          refine at_ishr C dX7_best_28 ?_
          refine at_iconst C (1 : Int32) dX7_best_29 (by decide) ?_
          refine at_iand C dX7_best_30 ?_
          refine at_if_ne C 37 dX7_best_31 (by decide) (fun c223 => ?_) (fun c223 => ?_)
          · have f224 : iv 1 1 ((x1 >>> (x2 &&& 31)) &&& (1 : Int32)) := (iv_nel (iv_andr (iv_wk (c := 0) (iv_c (c := 1) (x := (1 : Int32)) (by decide)) (by decide) (Int.le_refl _))) (by decide) c223)
            exact at_sub [0, 1, 2] rfl (K37 (show iv 0 63 x1 from f210) (iv_wk f221 (by decide) (by decide) : iv (-1) 5 x2))
          · have f225 : iv 0 0 ((x1 >>> (x2 &&& 31)) &&& (1 : Int32)) := (iv_eql (iv_c (c := 0) (x := (0 : Int32)) (by decide)) c223)
            refine at_bipush C (-10 : Int32) dX7_best_34 (by decide) ?_
            exact hR _ _ _ _ dX7_best_36 ⟨hG0, (iv_wk (iv_c (c := (-10)) (x := (-10 : Int32)) (by decide)) (by decide) (by decide) : iv (-2147483648) 2147483647 (-10 : Int32))⟩
set_option maxHeartbeats 4000000 in
set_option maxRecDepth 100000 in
theorem ct_X7_takes (σ : SS) (x1 : Int32) (hI : Inv σ) : ConI yX7_takes cX7_takes 3 (some .int) 2 (some 30) [.int x1] σ (fun r σ' => Gd σ σ' ∧ iv (-2147483648) 2147483647 r) := by
  refine conI_of (by decide) (fun q => Nat.le_of_ble_eq_true rfl) (fun E C en hR => ?_)
  have hn2 : 2 < e_n E := by rw [en]; decide
  have hG0 : Gd σ σ := Gd.rf hI
  refine at_aload_n C 0 dX7_takes_0 rfl ?_
  refine at_iload_n C 1 dX7_takes_1 rfl ?_
  refine at_Vi C (As := [.int x1]) (st := []) (b := 30) (ci := 7) (ct_X7_noHouse σ x1 hI) mb_X7_noHouse ml_X7_186 rfl rfl rfl (by decide) rfl (Nat.le_of_ble_eq_true rfl) dX7_takes_2 ?_
  rintro _ _ ⟨rfl, ⟨rfl, c120⟩ | ⟨rfl, c120⟩⟩
  · refine at_if_eq C 11 dX7_takes_5 (by decide) (fun c122 => absurd c122 (iv_xeq (iv_c (c := 1) (x := (1 : Int32)) (by decide)) (iv_c (c := 0) (x := (0 : Int32)) (by decide)) (by decide))) (fun c122 => ?_)
    refine at_bipush C (-2 : Int32) dX7_takes_8 (by decide) ?_
    exact hR _ _ _ _ dX7_takes_10 ⟨hG0, (iv_wk (iv_c (c := (-2)) (x := (-2 : Int32)) (by decide)) (by decide) (by decide) : iv (-2147483648) 2147483647 (-2 : Int32))⟩
  · have f123 : iv 0 5 x1 := (iv_of3 (Classical.not_not.mp c120) (show iv 0 6 (ac_gi σ 25) from hI.1 25))
    refine at_if_eq C 11 dX7_takes_5 (by decide) (fun c124 => ?_) (fun c124 => absurd (iv_xne (iv_c (c := 0) (x := (0 : Int32)) (by decide)) (iv_c (c := 0) (x := (0 : Int32)) (by decide))) c124)
    refine at_aload_n C 0 dX7_takes_11 rfl ?_
    refine at_aload_n C 0 dX7_takes_12 rfl ?_
    refine at_Vi C (As := []) (st := [.ref (e_q E 30)]) (b := 30) (ci := 7) (ct_X7_allHouses σ) mb_X7_allHouses ml_X7_206 rfl rfl rfl (by decide) rfl (Nat.le_of_ble_eq_true rfl) dX7_takes_13 ?_
    rintro _ _ ⟨rfl, rfl⟩
    refine at_iconst C (1 : Int32) dX7_takes_16 (by decide) ?_
    refine at_iload_n C 1 dX7_takes_17 rfl ?_
    refine at_ishl C dX7_takes_18 ?_
    refine at_iconst C (-1 : Int32) dX7_takes_19 (by decide) ?_
    refine at_ixor C dX7_takes_20 ?_
    refine at_iand C dX7_takes_21 ?_
    refine at_Vv C (As := [.int ((((1 : Int32) <<< ((ac_gi σ 25) &&& 31)) - (1 : Int32)) &&& (((1 : Int32) <<< (x1 &&& 31)) ^^^ (-1 : Int32)))]) (st := []) (b := 30) (ci := 7) (ct_X7_findBest σ ((((1 : Int32) <<< ((ac_gi σ 25) &&& 31)) - (1 : Int32)) &&& (((1 : Int32) <<< (x1 &&& 31)) ^^^ (-1 : Int32))) hI) mb_X7_findBest ml_X7_203 rfl rfl rfl (by decide) rfl (Nat.le_of_ble_eq_true rfl) dX7_takes_22 ?_
    rintro u127 hg128
    have hG129 := hG0.tr hg128
    refine at_aload_n C 0 dX7_takes_25 rfl ?_
    refine gf_X7_197 C dX7_takes_26 ?_
    refine at_istore_n C (lv' := [(2, .int (ac_gi u127 27)), (0, .ref (e_q E 30)), (1, .int x1)]) dX7_takes_29 hn2 rfl ?_
    refine at_aload_n C 1 dX7_takes_30 rfl ?_
    refine at_aload_n C 1 dX7_takes_31 rfl ?_
    refine at_Vi C (As := []) (st := [.ref (e_q E 30)]) (b := 30) (ci := 7) (ct_X7_allHouses u127) mb_X7_allHouses ml_X7_206 rfl rfl rfl (by decide) rfl (Nat.le_of_ble_eq_true rfl) dX7_takes_32 ?_
    rintro _ _ ⟨rfl, rfl⟩
    refine at_Vv C (As := [.int (((1 : Int32) <<< ((ac_gi u127 25) &&& 31)) - (1 : Int32))]) (st := []) (b := 30) (ci := 7) (ct_X7_findBest u127 (((1 : Int32) <<< ((ac_gi u127 25) &&& 31)) - (1 : Int32)) hg128.1) mb_X7_findBest ml_X7_203 rfl rfl rfl (by decide) rfl (Nat.le_of_ble_eq_true rfl) dX7_takes_35 ?_
    rintro u132 hg133
    have hG134 := hG129.tr hg133
    refine at_iload_n C 0 dX7_takes_38 rfl ?_
    refine at_aload_n C 1 dX7_takes_39 rfl ?_
    refine gf_X7_197 C dX7_takes_40 ?_
    refine at_aload_n C 1 dX7_takes_43 rfl ?_
    refine at_iload_n C 2 dX7_takes_44 rfl ?_
    refine at_Vi C (As := [.int x1]) (st := [.int (ac_gi u132 27), .int (ac_gi u127 27)]) (b := 30) (ci := 7) (ct_X7_wonBy u132 x1 hg133.1 (show iv 0 5 x1 from f123)) mb_X7_wonBy ml_X7_209 rfl rfl rfl (by decide) rfl (Nat.le_of_ble_eq_true rfl) dX7_takes_45 ?_
    rintro r135 _ ⟨rfl, f136⟩
    refine at_isub C dX7_takes_48 ?_
    refine at_isub C dX7_takes_49 ?_
    exact hR _ _ _ _ dX7_takes_50 ⟨hG134, (show iv (-2147483648) 2147483647 ((ac_gi u127 27) - ((ac_gi u132 27) - r135)) from (iv_any ((ac_gi u127 27) - ((ac_gi u132 27) - r135))))⟩
set_option maxHeartbeats 4000000 in
set_option maxRecDepth 100000 in
theorem ct_X7_isBlocking (σ : SS) (x1 : Int32) (hI : Inv σ) : ConI yX7_isBlocking cX7_isBlocking 6 (some .boolean) 2 (some 30) [.int x1] σ (fun r σ' => Gd σ σ' ∧ (r = 0 ∨ r = 1)) := by
  refine conZ_of (by decide) (fun q => Nat.le_of_ble_eq_true rfl) (fun r u h => h.2) (fun E C en hR => ?_)
  have hn2 : 2 < e_n E := by rw [en]; decide
  have hn3 : 3 < e_n E := by rw [en]; decide
  have hn4 : 4 < e_n E := by rw [en]; decide
  have hn5 : 5 < e_n E := by rw [en]; decide
  have hG0 : Gd σ σ := Gd.rf hI
  have K23 : ∀ (n23 : Nat) (y2_23 : Int32) (y3_23 : Int32) (y4_23 : Int32) (s23 : SS), (6 - (y4_23).toInt).toNat < n23 → iv (-2147483648) 2147483647 y2_23 → iv (-2147483648) 2147483647 y3_23 → iv 0 6 y4_23 → Gd σ s23 → AT E 23 [(0, .ref (e_q E 30)), (1, .int x1), (2, .int y2_23), (3, .int y3_23), (4, .int y4_23)] [] s23 := by
    intro n23
    induction n23 with
    | zero => intro y2_23 y3_23 y4_23 s23 hm; exact absurd hm (Nat.not_lt_zero _)
    | succ n23 ih23 =>
      intro y2_23 y3_23 y4_23 s23 hm23 b2_23 b3_23 b4_23 hG_23
      have K62 : ∀ (y5_62 : Int32) (z0_62 : Int32) (z1_62 : Int32), iv 0 5 y4_23 → iv (-2147483648) 2147483647 y5_62 → iv (-2147483648) 2147483647 z0_62 → iv (-2147483648) 2147483647 z1_62 → AT E 62 [(0, .ref (e_q E 30)), (1, .int x1), (2, .int y2_23), (4, .int y4_23), (5, .int y5_62)] [.int z0_62, .int z1_62] s23 := by
        intro y5_62 z0_62 z1_62 b4_62 b5_62 bz0_62 bz1_62
        refine at_iadd C dX7_isBlocking_62 ?_
        refine at_istore_n C (lv' := [(3, .int (z1_62 + z0_62)), (0, .ref (e_q E 30)), (1, .int x1), (2, .int y2_23), (4, .int y4_23), (5, .int y5_62)]) dX7_isBlocking_63 hn3 rfl ?_
        refine at_iload_n C 0 dX7_isBlocking_64 rfl ?_
        refine at_iload_n C 2 dX7_isBlocking_65 rfl ?_
        refine at_iload C 4 dX7_isBlocking_66 rfl ?_
        refine at_ishr C dX7_isBlocking_68 ?_
        refine at_iconst C (1 : Int32) dX7_isBlocking_69 (by decide) ?_
        refine at_iand C dX7_isBlocking_70 ?_
        refine at_iconst C (1 : Int32) dX7_isBlocking_71 (by decide) ?_
        refine at_icmp_ne C 100 dX7_isBlocking_72 (by decide) (fun c301 => ?_) (fun c301 => ?_)
        · have f302 : iv 0 0 ((x1 >>> (y4_23 &&& 31)) &&& (1 : Int32)) := (iv_neh (iv_andr (iv_wk (c := 0) (iv_c (c := 1) (x := (1 : Int32)) (by decide)) (by decide) (Int.le_refl _))) (by decide) c301)
          refine at_iconst C (0 : Int32) dX7_isBlocking_100 (by decide) ?_
          refine at_iadd C dX7_isBlocking_101 ?_
          refine at_istore_n C (lv' := [(3, .int ((z1_62 + z0_62) + (0 : Int32))), (0, .ref (e_q E 30)), (1, .int x1), (2, .int y2_23), (4, .int y4_23), (5, .int y5_62)]) dX7_isBlocking_102 hn3 rfl ?_
          refine at_iinc C (v := (y4_23 + (1 : Int32))) (lv' := [(4, .int (y4_23 + (1 : Int32))), (3, .int ((z1_62 + z0_62) + (0 : Int32))), (0, .ref (e_q E 30)), (1, .int x1), (2, .int y2_23), (5, .int y5_62)]) 4 dX7_isBlocking_103 rfl rfl hn4 rfl ?_
          refine at_goto C 23 dX7_isBlocking_106 (by decide) ?_
          exact at_sub [2, 3, 4, 1, 0] rfl (ih23 y2_23 ((z1_62 + z0_62) + (0 : Int32)) (y4_23 + (1 : Int32)) s23 (mz_up hm23 (ac_ti1 b4_62 (iv_c (c := 1) (x := (1 : Int32)) (by decide)) (by decide) (by decide) (by decide)) (by decide) (iv_wk (iv_add b4_62 (iv_c (c := 1) (x := (1 : Int32)) (by decide)) (by decide) (by decide)) (by decide) (by decide) : iv 0 6 (y4_23 + (1 : Int32))).2) (show iv (-2147483648) 2147483647 y2_23 from b2_23) (show iv (-2147483648) 2147483647 ((z1_62 + z0_62) + (0 : Int32)) from (iv_add (iv_any (z1_62 + z0_62)) (iv_c (c := 0) (x := (0 : Int32)) (by decide)) (by decide) (by decide))) (iv_wk (iv_add b4_62 (iv_c (c := 1) (x := (1 : Int32)) (by decide)) (by decide) (by decide)) (by decide) (by decide) : iv 0 6 (y4_23 + (1 : Int32))) hG_23)
        · have f303 : iv 1 1 ((x1 >>> (y4_23 &&& 31)) &&& (1 : Int32)) := (iv_eql (iv_c (c := 1) (x := (1 : Int32)) (by decide)) c301)
          refine at_iload C 5 dX7_isBlocking_75 rfl ?_
          refine at_aload_n C 1 dX7_isBlocking_77 rfl ?_
          refine gf_X7_54 C dX7_isBlocking_78 ?_
          refine at_iload C 4 dX7_isBlocking_81 rfl ?_
          refine at_iald C (c := 41) rfl (iv_in (n := 6) b4_62 (by decide) (by decide)) dX7_isBlocking_83 ?_
          refine at_icmp_le C 100 dX7_isBlocking_84 (by decide) (fun c304 => ?_) (fun c304 => ?_)
          · refine at_iconst C (0 : Int32) dX7_isBlocking_100 (by decide) ?_
            refine at_iadd C dX7_isBlocking_101 ?_
            refine at_istore_n C (lv' := [(3, .int ((z1_62 + z0_62) + (0 : Int32))), (0, .ref (e_q E 30)), (1, .int x1), (2, .int y2_23), (4, .int y4_23), (5, .int y5_62)]) dX7_isBlocking_102 hn3 rfl ?_
            refine at_iinc C (v := (y4_23 + (1 : Int32))) (lv' := [(4, .int (y4_23 + (1 : Int32))), (3, .int ((z1_62 + z0_62) + (0 : Int32))), (0, .ref (e_q E 30)), (1, .int x1), (2, .int y2_23), (5, .int y5_62)]) 4 dX7_isBlocking_103 rfl rfl hn4 rfl ?_
            refine at_goto C 23 dX7_isBlocking_106 (by decide) ?_
            exact at_sub [2, 3, 4, 1, 0] rfl (ih23 y2_23 ((z1_62 + z0_62) + (0 : Int32)) (y4_23 + (1 : Int32)) s23 (mz_up hm23 (ac_ti1 b4_62 (iv_c (c := 1) (x := (1 : Int32)) (by decide)) (by decide) (by decide) (by decide)) (by decide) (iv_wk (iv_add b4_62 (iv_c (c := 1) (x := (1 : Int32)) (by decide)) (by decide) (by decide)) (by decide) (by decide) : iv 0 6 (y4_23 + (1 : Int32))).2) (show iv (-2147483648) 2147483647 y2_23 from b2_23) (show iv (-2147483648) 2147483647 ((z1_62 + z0_62) + (0 : Int32)) from (iv_add (iv_any (z1_62 + z0_62)) (iv_c (c := 0) (x := (0 : Int32)) (by decide)) (by decide) (by decide))) (iv_wk (iv_add b4_62 (iv_c (c := 1) (x := (1 : Int32)) (by decide)) (by decide) (by decide)) (by decide) (by decide) : iv 0 6 (y4_23 + (1 : Int32))) hG_23)
          · have f305 : iv (-2147483648) 2147483646 (ac_ga s23 41 (y4_23).toNatClampNeg) := (iv_ltl (iv_any (ac_ga s23 41 (y4_23).toNatClampNeg)) b5_62 (Int32.not_le.mp c304))
            have f306 : iv (-2147483647) 2147483647 y5_62 := (iv_ltr (iv_any (ac_ga s23 41 (y4_23).toNatClampNeg)) b5_62 (Int32.not_le.mp c304))
            refine at_iload C 5 dX7_isBlocking_87 rfl ?_
            refine at_aload_n C 1 dX7_isBlocking_89 rfl ?_
            refine gf_X7_54 C dX7_isBlocking_90 ?_
            refine at_iload C 4 dX7_isBlocking_93 rfl ?_
            refine at_iald C (c := 41) rfl (iv_in (n := 6) b4_62 (by decide) (by decide)) dX7_isBlocking_95 ?_
            refine at_isub C dX7_isBlocking_96 ?_
            refine at_goto C 101 dX7_isBlocking_97 (by decide) ?_
            refine at_iadd C dX7_isBlocking_101 ?_
            refine at_istore_n C (lv' := [(3, .int ((z1_62 + z0_62) + (y5_62 - (ac_ga s23 41 (y4_23).toNatClampNeg)))), (0, .ref (e_q E 30)), (1, .int x1), (2, .int y2_23), (4, .int y4_23), (5, .int y5_62)]) dX7_isBlocking_102 hn3 rfl ?_
            refine at_iinc C (v := (y4_23 + (1 : Int32))) (lv' := [(4, .int (y4_23 + (1 : Int32))), (3, .int ((z1_62 + z0_62) + (y5_62 - (ac_ga s23 41 (y4_23).toNatClampNeg)))), (0, .ref (e_q E 30)), (1, .int x1), (2, .int y2_23), (5, .int y5_62)]) 4 dX7_isBlocking_103 rfl rfl hn4 rfl ?_
            refine at_goto C 23 dX7_isBlocking_106 (by decide) ?_
            exact at_sub [2, 3, 4, 1, 0] rfl (ih23 y2_23 ((z1_62 + z0_62) + (y5_62 - (ac_ga s23 41 (y4_23).toNatClampNeg))) (y4_23 + (1 : Int32)) s23 (mz_up hm23 (ac_ti1 b4_62 (iv_c (c := 1) (x := (1 : Int32)) (by decide)) (by decide) (by decide) (by decide)) (by decide) (iv_wk (iv_add b4_62 (iv_c (c := 1) (x := (1 : Int32)) (by decide)) (by decide) (by decide)) (by decide) (by decide) : iv 0 6 (y4_23 + (1 : Int32))).2) (show iv (-2147483648) 2147483647 y2_23 from b2_23) (show iv (-2147483648) 2147483647 ((z1_62 + z0_62) + (y5_62 - (ac_ga s23 41 (y4_23).toNatClampNeg))) from (iv_any ((z1_62 + z0_62) + (y5_62 - (ac_ga s23 41 (y4_23).toNatClampNeg))))) (iv_wk (iv_add b4_62 (iv_c (c := 1) (x := (1 : Int32)) (by decide)) (by decide) (by decide)) (by decide) (by decide) : iv 0 6 (y4_23 + (1 : Int32))) hG_23)
      refine at_iload C 4 dX7_isBlocking_23 rfl ?_
      refine at_aload_n C 0 dX7_isBlocking_25 rfl ?_
      refine gf_X7_183 C dX7_isBlocking_26 ?_
      refine at_icmp_ge C 109 dX7_isBlocking_29 (by decide) (fun c307 => ?_) (fun c307 => ?_)
      · refine at_iload_n C 2 dX7_isBlocking_109 rfl ?_
        refine at_iload_n C 3 dX7_isBlocking_110 rfl ?_
        refine at_icmp_le C 118 dX7_isBlocking_111 (by decide) (fun c308 => ?_) (fun c308 => ?_)
        · refine at_iconst C (0 : Int32) dX7_isBlocking_118 (by decide) ?_
          exact hR _ _ _ _ dX7_isBlocking_119 ⟨hG_23, Or.inl rfl⟩
        · have f309 : iv (-2147483648) 2147483646 y3_23 := (iv_ltl b3_23 b2_23 (Int32.not_le.mp c308))
          have f310 : iv (-2147483647) 2147483647 y2_23 := (iv_ltr b3_23 b2_23 (Int32.not_le.mp c308))
          refine at_iconst C (1 : Int32) dX7_isBlocking_114 (by decide) ?_
          refine at_goto C 119 dX7_isBlocking_115 (by decide) ?_
          exact hR _ _ _ _ dX7_isBlocking_119 ⟨hG_23, Or.inr rfl⟩
      · have f311 : iv 0 5 y4_23 := (iv_ltl b4_23 (show iv 0 6 (ac_gi s23 25) from hG_23.1.1 25) (Int32.not_le.mp c307))
        have f312 : iv 1 6 (ac_gi s23 25) := (iv_ltr b4_23 (show iv 0 6 (ac_gi s23 25) from hG_23.1.1 25) (Int32.not_le.mp c307))
        refine at_aload_n C 0 dX7_isBlocking_32 rfl ?_
        refine at_iload C 4 dX7_isBlocking_33 rfl ?_
        refine at_Vi C (As := [.int y4_23]) (st := []) (b := 30) (ci := 7) (ct_X7_wonBy s23 y4_23 hG_23.1 (show iv 0 5 y4_23 from f311)) mb_X7_wonBy ml_X7_209 rfl rfl rfl (by decide) rfl (Nat.le_of_ble_eq_true rfl) dX7_isBlocking_35 ?_
        rintro r313 _ ⟨rfl, f314⟩
        refine at_istore C (lv' := [(5, .int r313), (0, .ref (e_q E 30)), (1, .int x1), (2, .int y2_23), (3, .int y3_23), (4, .int y4_23)]) dX7_isBlocking_38 hn5 rfl ?_
        refine at_iload_n C 4 dX7_isBlocking_40 rfl ?_
        refine at_aload_n C 1 dX7_isBlocking_41 rfl ?_
        refine gf_X7_69 C dX7_isBlocking_42 ?_
        refine at_iload C 5 dX7_isBlocking_45 rfl ?_
        refine at_iald C (c := 46) rfl (iv_in (n := 6) f311 (by decide) (by decide)) dX7_isBlocking_47 ?_
        refine at_if_ge C 55 dX7_isBlocking_48 (by decide) (fun c315 => ?_) (fun c315 => ?_)
        · have f316 : iv 0 23 (ac_ga s23 46 (y4_23).toNatClampNeg) := (iv_ler (iv_c (c := 0) (x := (0 : Int32)) (by decide)) (show iv (-1) 23 (ac_ga s23 46 (y4_23).toNatClampNeg) from hG_23.1.2 46 _) c315)
          refine at_aload_n C 1 dX7_isBlocking_55 rfl ?_
          refine gf_X7_54 C dX7_isBlocking_56 ?_
          refine at_iload C 5 dX7_isBlocking_59 rfl ?_
          refine at_iald C (c := 41) rfl (iv_in (n := 6) f311 (by decide) (by decide)) dX7_isBlocking_61 ?_
          exact at_sub [1, 2, 3, 5, 0] rfl (K62 r313 (ac_ga s23 41 (y4_23).toNatClampNeg) y3_23 (show iv 0 5 y4_23 from f311) (show iv (-2147483648) 2147483647 r313 from f314) (show iv (-2147483648) 2147483647 (ac_ga s23 41 (y4_23).toNatClampNeg) from (iv_any (ac_ga s23 41 (y4_23).toNatClampNeg))) (show iv (-2147483648) 2147483647 y3_23 from b3_23))
        · have f317 : iv (-1) (-1) (ac_ga s23 46 (y4_23).toNatClampNeg) := (iv_ltl (show iv (-1) 23 (ac_ga s23 46 (y4_23).toNatClampNeg) from hG_23.1.2 46 _) (iv_c (c := 0) (x := (0 : Int32)) (by decide)) (Int32.not_le.mp c315))
          refine at_iconst C (0 : Int32) dX7_isBlocking_51 (by decide) ?_
          refine at_goto C 62 dX7_isBlocking_52 (by decide) ?_
          exact at_sub [1, 2, 3, 5, 0] rfl (K62 r313 (0 : Int32) y3_23 (show iv 0 5 y4_23 from f311) (show iv (-2147483648) 2147483647 r313 from f314) (iv_wk (iv_c (c := 0) (x := (0 : Int32)) (by decide)) (by decide) (by decide) : iv (-2147483648) 2147483647 (0 : Int32)) (show iv (-2147483648) 2147483647 y3_23 from b3_23))
  refine at_aload_n C 0 dX7_isBlocking_0 rfl ?_
  refine at_iload_n C 1 dX7_isBlocking_1 rfl ?_
  refine at_Vv C (As := [.int x1]) (st := []) (b := 30) (ci := 7) (ct_X7_findBest σ x1 hI) mb_X7_findBest ml_X7_203 rfl rfl rfl (by decide) rfl (Nat.le_of_ble_eq_true rfl) dX7_isBlocking_2 ?_
  rintro u318 hg319
  have hG320 := hG0.tr hg319
  refine at_aload_n C 0 dX7_isBlocking_5 rfl ?_
  refine gf_X7_197 C dX7_isBlocking_6 ?_
  refine at_istore_n C (lv' := [(2, .int (ac_gi u318 27)), (0, .ref (e_q E 30)), (1, .int x1)]) dX7_isBlocking_9 hn2 rfl ?_
  refine at_aload_n C 1 dX7_isBlocking_10 rfl ?_
  refine at_aload_n C 1 dX7_isBlocking_11 rfl ?_
  refine at_Vi C (As := []) (st := [.ref (e_q E 30)]) (b := 30) (ci := 7) (ct_X7_allHouses u318) mb_X7_allHouses ml_X7_206 rfl rfl rfl (by decide) rfl (Nat.le_of_ble_eq_true rfl) dX7_isBlocking_12 ?_
  rintro _ _ ⟨rfl, rfl⟩
  refine at_Vv C (As := [.int (((1 : Int32) <<< ((ac_gi u318 25) &&& 31)) - (1 : Int32))]) (st := []) (b := 30) (ci := 7) (ct_X7_findBest u318 (((1 : Int32) <<< ((ac_gi u318 25) &&& 31)) - (1 : Int32)) hg319.1) mb_X7_findBest ml_X7_203 rfl rfl rfl (by decide) rfl (Nat.le_of_ble_eq_true rfl) dX7_isBlocking_15 ?_
  rintro u323 hg324
  have hG325 := hG320.tr hg324
  refine at_iconst C (0 : Int32) dX7_isBlocking_18 (by decide) ?_
  refine at_istore_n C (lv' := [(3, .int (0 : Int32)), (2, .int (ac_gi u318 27)), (0, .ref (e_q E 30)), (1, .int x1)]) dX7_isBlocking_19 hn3 rfl ?_
  refine at_iconst C (0 : Int32) dX7_isBlocking_20 (by decide) ?_
  refine at_istore C (lv' := [(4, .int (0 : Int32)), (3, .int (0 : Int32)), (2, .int (ac_gi u318 27)), (0, .ref (e_q E 30)), (1, .int x1)]) dX7_isBlocking_21 hn4 rfl ?_
  exact at_sub [3, 4, 2, 1, 0] rfl (K23 _ (ac_gi u318 27) (0 : Int32) (0 : Int32) u323 (Nat.lt_succ_self _) (show iv (-2147483648) 2147483647 (ac_gi u318 27) from (iv_any (ac_gi u318 27))) (iv_wk (iv_c (c := 0) (x := (0 : Int32)) (by decide)) (by decide) (by decide) : iv (-2147483648) 2147483647 (0 : Int32)) (iv_wk (iv_c (c := 0) (x := (0 : Int32)) (by decide)) (by decide) (by decide) : iv 0 6 (0 : Int32)) hG325)
set_option maxHeartbeats 4000000 in
set_option maxRecDepth 100000 in
theorem ct_X7_blocks (σ : SS) (x1 : Int32) (hI : Inv σ) : ConI yX7_blocks cX7_blocks 2 (some .int) 3 (some 30) [.int x1] σ (fun r σ' => Gd σ σ' ∧ iv (-2147483648) 2147483647 r) := by
  refine conI_of (by decide) (fun q => Nat.le_of_ble_eq_true rfl) (fun E C en hR => ?_)
  have hG0 : Gd σ σ := Gd.rf hI
  refine at_aload_n C 0 dX7_blocks_0 rfl ?_
  refine at_iload_n C 1 dX7_blocks_1 rfl ?_
  refine at_Vi C (As := [.int x1]) (st := []) (b := 30) (ci := 7) (ct_X7_noGroup σ x1 hI) mb_X7_noGroup ml_X7_200 rfl rfl rfl (by decide) rfl (Nat.le_of_ble_eq_true rfl) dX7_blocks_2 ?_
  rintro _ _ ⟨rfl, ⟨rfl, c134⟩ | ⟨rfl, c134⟩⟩
  · refine at_if_eq C 13 dX7_blocks_5 (by decide) (fun c136 => absurd c136 (iv_xeq (iv_c (c := 1) (x := (1 : Int32)) (by decide)) (iv_c (c := 0) (x := (0 : Int32)) (by decide)) (by decide))) (fun c136 => ?_)
    refine at_bipush C (-2 : Int32) dX7_blocks_8 (by decide) ?_
    refine at_goto C 21 dX7_blocks_10 (by decide) ?_
    exact hR _ _ _ _ dX7_blocks_21 ⟨hG0, (iv_wk (iv_c (c := (-2)) (x := (-2 : Int32)) (by decide)) (by decide) (by decide) : iv (-2147483648) 2147483647 (-2 : Int32))⟩
  · have f137 : iv 0 63 x1 := (iv_of3 (Classical.not_not.mp c134) (iv_shl1 (a := 0) (b := 6) (show iv 0 6 (ac_gi σ 25) from hI.1 25) (by decide)))
    refine at_if_eq C 13 dX7_blocks_5 (by decide) (fun c138 => ?_) (fun c138 => absurd (iv_xne (iv_c (c := 0) (x := (0 : Int32)) (by decide)) (iv_c (c := 0) (x := (0 : Int32)) (by decide))) c138)
    refine at_aload_n C 0 dX7_blocks_13 rfl ?_
    refine at_iload_n C 1 dX7_blocks_14 rfl ?_
    refine at_Vi C (As := [.int x1]) (st := []) (b := 30) (ci := 7) (ct_X7_isBlocking σ x1 hI) mb_X7_isBlocking ml_X7_212 rfl rfl rfl (by decide) rfl (Nat.le_of_ble_eq_true rfl) dX7_blocks_15 ?_
    rintro _ u141 ⟨hg140, rfl | rfl⟩
    · have hG143 := hG0.tr hg140
      refine at_Si C (As := [.int (0 : Int32)]) (st := []) (ct_X7_one u141 (0 : Int32) hg140.1) mb_X7_one ml_X7_124 rfl (by decide) rfl (Nat.le_of_ble_eq_true rfl) dX7_blocks_18 ?_
      rintro _ _ (⟨c144, rfl, rfl⟩ | ⟨c146, rfl, rfl⟩)
      · show AT E 21 [(0, .ref (e_q E 30)), (1, .int x1)] [.int (0 : Int32)] u141
        exact hR _ _ _ _ dX7_blocks_21 ⟨hG143, (iv_wk (iv_c (c := 0) (x := (0 : Int32)) (by decide)) (by decide) (by decide) : iv (-2147483648) 2147483647 (0 : Int32))⟩
      · exact absurd (show (0 : Int32) = 0 from rfl) c146
    · have hG148 := hG0.tr hg140
      refine at_Si C (As := [.int (1 : Int32)]) (st := []) (ct_X7_one u141 (1 : Int32) hg140.1) mb_X7_one ml_X7_124 rfl (by decide) rfl (Nat.le_of_ble_eq_true rfl) dX7_blocks_18 ?_
      rintro _ _ (⟨c149, rfl, rfl⟩ | ⟨c151, rfl, rfl⟩)
      · exact absurd c149 (by decide)
      · show AT E 21 [(0, .ref (e_q E 30)), (1, .int x1)] [.int (1 : Int32)] u141
        exact hR _ _ _ _ dX7_blocks_21 ⟨hG148, (iv_wk (iv_c (c := 1) (x := (1 : Int32)) (by decide)) (by decide) (by decide) : iv (-2147483648) 2147483647 (1 : Int32))⟩
set_option maxHeartbeats 4000000 in
set_option maxRecDepth 100000 in
theorem ct_X7_alone (σ : SS) (hI : Inv σ) : ConI yX7_alone cX7_alone 2 (some .int) 3 (some 30) [] σ (fun r σ' => Gd σ σ' ∧ iv (-2147483648) 2147483647 r) := by
  refine conI_of (by decide) (fun q => Nat.le_of_ble_eq_true rfl) (fun E C en hR => ?_)
  have hn1 : 1 < e_n E := by rw [en]; decide
  have hG0 : Gd σ σ := Gd.rf hI
  have K2 : ∀ (n2 : Nat) (y1_2 : Int32) (s2 : SS), (64 - (y1_2).toInt).toNat < n2 → iv 1 64 y1_2 → Gd σ s2 → AT E 2 [(0, .ref (e_q E 30)), (1, .int y1_2)] [] s2 := by
    intro n2
    induction n2 with
    | zero => intro y1_2 s2 hm; exact absurd hm (Nat.not_lt_zero _)
    | succ n2 ih2 =>
      intro y1_2 s2 hm2 b1_2 hG_2
      refine at_iload_n C 1 dX7_alone_2 rfl ?_
      refine at_aload_n C 0 dX7_alone_3 rfl ?_
      refine at_Vi C (As := []) (st := [.int y1_2]) (b := 30) (ci := 7) (ct_X7_allHouses s2) mb_X7_allHouses ml_X7_206 rfl rfl rfl (by decide) rfl (Nat.le_of_ble_eq_true rfl) dX7_alone_4 ?_
      rintro _ _ ⟨rfl, rfl⟩
      refine at_icmp_gt C 26 dX7_alone_7 (by decide) (fun c328 => ?_) (fun c328 => ?_)
      · refine at_iconst C (-1 : Int32) dX7_alone_26 (by decide) ?_
        exact hR _ _ _ _ dX7_alone_27 ⟨hG_2, (iv_wk (iv_c (c := (-1)) (x := (-1 : Int32)) (by decide)) (by decide) (by decide) : iv (-2147483648) 2147483647 (-1 : Int32))⟩
      · have f329 : iv 1 63 y1_2 := (iv_lel b1_2 (iv_sub (iv_shl1 (a := 0) (b := 6) (show iv 0 6 (ac_gi s2 25) from hG_2.1.1 25) (by decide)) (iv_c (c := 1) (x := (1 : Int32)) (by decide)) (by decide) (by decide)) (Int32.not_lt.mp c328))
        have f330 : iv 1 63 (((1 : Int32) <<< ((ac_gi s2 25) &&& 31)) - (1 : Int32)) := (iv_ler b1_2 (iv_sub (iv_shl1 (a := 0) (b := 6) (show iv 0 6 (ac_gi s2 25) from hG_2.1.1 25) (by decide)) (iv_c (c := 1) (x := (1 : Int32)) (by decide)) (by decide) (by decide)) (Int32.not_lt.mp c328))
        refine at_aload_n C 0 dX7_alone_10 rfl ?_
        refine at_iload_n C 1 dX7_alone_11 rfl ?_
        refine at_Vi C (As := [.int y1_2]) (st := []) (b := 30) (ci := 7) (ct_X7_isBlocking s2 y1_2 hG_2.1) mb_X7_isBlocking ml_X7_212 rfl rfl rfl (by decide) rfl (Nat.le_of_ble_eq_true rfl) dX7_alone_12 ?_
        rintro _ u333 ⟨hg332, rfl | rfl⟩
        · have hG335 := hG_2.tr hg332
          refine at_if_eq C 20 dX7_alone_15 (by decide) (fun c336 => ?_) (fun c336 => absurd (iv_xne (iv_c (c := 0) (x := (0 : Int32)) (by decide)) (iv_c (c := 0) (x := (0 : Int32)) (by decide))) c336)
          refine at_iinc C (v := (y1_2 + (1 : Int32))) (lv' := [(1, .int (y1_2 + (1 : Int32))), (0, .ref (e_q E 30))]) 1 dX7_alone_20 rfl rfl hn1 rfl ?_
          refine at_goto C 2 dX7_alone_23 (by decide) ?_
          exact at_sub [1, 0] rfl (ih2 (y1_2 + (1 : Int32)) u333 (mz_up hm2 (ac_ti1 f329 (iv_c (c := 1) (x := (1 : Int32)) (by decide)) (by decide) (by decide) (by decide)) (by decide) (iv_wk (iv_add f329 (iv_c (c := 1) (x := (1 : Int32)) (by decide)) (by decide) (by decide)) (by decide) (by decide) : iv 1 64 (y1_2 + (1 : Int32))).2) (iv_wk (iv_add f329 (iv_c (c := 1) (x := (1 : Int32)) (by decide)) (by decide) (by decide)) (by decide) (by decide) : iv 1 64 (y1_2 + (1 : Int32))) hG335)
        · have hG337 := hG_2.tr hg332
          refine at_if_eq C 20 dX7_alone_15 (by decide) (fun c338 => absurd c338 (iv_xeq (iv_c (c := 1) (x := (1 : Int32)) (by decide)) (iv_c (c := 0) (x := (0 : Int32)) (by decide)) (by decide))) (fun c338 => ?_)
          refine at_iload_n C 1 dX7_alone_18 rfl ?_
          exact hR _ _ _ _ dX7_alone_19 ⟨hG337, (iv_wk f329 (by decide) (by decide) : iv (-2147483648) 2147483647 y1_2)⟩
  refine at_iconst C (1 : Int32) dX7_alone_0 (by decide) ?_
  refine at_istore_n C (lv' := [(1, .int (1 : Int32)), (0, .ref (e_q E 30))]) dX7_alone_1 hn1 rfl ?_
  exact at_sub [1, 0] rfl (K2 _ (1 : Int32) σ (Nat.lt_succ_self _) (iv_wk (iv_c (c := 1) (x := (1 : Int32)) (by decide)) (by decide) (by decide) : iv 1 64 (1 : Int32)) hG0)
