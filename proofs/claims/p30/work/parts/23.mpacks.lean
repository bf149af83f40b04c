set_option maxHeartbeats 4000000 in
set_option maxRecDepth 100000 in
theorem ct_X7_packs (σ : SS) (x1 : Int32) (hI : Inv σ) : ConI yX7_packs cX7_packs 3 (some .boolean) 2 (some 30) [.int x1] σ (fun r σ' => Gd σ σ' ∧ (r = 0 ∨ r = 1)) := by
  refine conZ_of (by decide) (fun q => Nat.le_of_ble_eq_true rfl) (fun r u h => h.2) (fun E C en hR => ?_)
  have hn2 : 2 < e_n E := by rw [en]; decide
  have hG0 : Gd σ σ := Gd.rf hI
  have K21 : ∀ (n21 : Nat) (y2_21 : Int32) (s21 : SS), pk_M (ac_ga s21 34) (ac_gi s21 16).toInt (ac_gi s21 18).toInt (y2_21).toInt < n21 → iv (-1) 10 y2_21 → Gd σ s21 → (pk_E (ac_ga s21 34) ((ac_gi s21 16)).toInt ((ac_gi s21 18)).toInt (y2_21).toInt) → AT E 21 [(0, .ref (e_q E 30)), (2, .int y2_21)] [] s21 := by
    intro n21
    induction n21 with
    | zero => intro y2_21 s21 hm; exact absurd hm (Nat.not_lt_zero _)
    | succ n21 ih21 =>
      intro y2_21 s21 hm21 b2_21 hG_21 e0_21
      refine at_iload_n C 1 dX7_packs_21 rfl ?_
      refine at_if_lt C 105 dX7_packs_22 (by decide) (fun c508 => ?_) (fun c508 => ?_)
      · have f509 : iv (-1) (-1) y2_21 := (iv_ltl b2_21 (iv_c (c := 0) (x := (0 : Int32)) (by decide)) c508)
        refine at_iload_n C 1 dX7_packs_105 rfl ?_
        refine at_aload_n C 0 dX7_packs_106 rfl ?_
        refine gf_X7_106 C dX7_packs_107 ?_
        refine at_icmp_ne C 117 dX7_packs_110 (by decide) (fun c510 => ?_) (fun c510 => absurd c510 (iv_xeq f509 (show iv 0 10 (ac_gi s21 18) from hG_21.1.1 18) (by decide)))
        refine at_iconst C (0 : Int32) dX7_packs_117 (by decide) ?_
        exact hR _ _ _ _ dX7_packs_118 ⟨hG_21, Or.inl rfl⟩
      · have f511 : iv 0 10 y2_21 := (iv_ler (iv_c (c := 0) (x := (0 : Int32)) (by decide)) b2_21 (Int32.not_lt.mp c508))
        refine at_iload_n C 1 dX7_packs_25 rfl ?_
        refine at_aload_n C 0 dX7_packs_26 rfl ?_
        refine gf_X7_106 C dX7_packs_27 ?_
        refine at_icmp_ge C 105 dX7_packs_30 (by decide) (fun c512 => ?_) (fun c512 => ?_)
        · refine at_iload_n C 1 dX7_packs_105 rfl ?_
          refine at_aload_n C 0 dX7_packs_106 rfl ?_
          refine gf_X7_106 C dX7_packs_107 ?_
          refine at_icmp_ne C 117 dX7_packs_110 (by decide) (fun c513 => ?_) (fun c513 => ?_)
          · refine at_iconst C (0 : Int32) dX7_packs_117 (by decide) ?_
            exact hR _ _ _ _ dX7_packs_118 ⟨hG_21, Or.inl rfl⟩
          · refine at_iconst C (1 : Int32) dX7_packs_113 (by decide) ?_
            refine at_goto C 118 dX7_packs_114 (by decide) ?_
            exact hR _ _ _ _ dX7_packs_118 ⟨hG_21, Or.inr rfl⟩
        · have f514 : iv 0 9 y2_21 := (iv_ltl f511 (show iv 0 10 (ac_gi s21 18) from hG_21.1.1 18) (Int32.not_le.mp c512))
          have f515 : iv 1 10 (ac_gi s21 18) := (iv_ltr f511 (show iv 0 10 (ac_gi s21 18) from hG_21.1.1 18) (Int32.not_le.mp c512))
          refine at_aload_n C 0 dX7_packs_33 rfl ?_
          refine gf_X7_26 C dX7_packs_34 ?_
          refine at_iload_n C 1 dX7_packs_37 rfl ?_
          refine at_dup2 C dX7_packs_38 rfl rfl ?_
          refine at_iald C (c := 34) rfl (iv_in (n := 10) f514 (by decide) (by decide)) dX7_packs_39 ?_
          refine at_iconst C (1 : Int32) dX7_packs_40 (by decide) ?_
          refine at_iadd C dX7_packs_41 ?_
          refine at_iast C (c := 34) rfl (fun f => ac_ast_34 _ _ _ _ f) (iv_in (n := 10) f514 (by decide) (by decide)) dX7_packs_42 ?_
          have hG516 := Gd.sa (c := 34) (i := (y2_21).toNatClampNeg) hG_21 rfl (show iv (-2147483648) 2147483647 ((ac_ga s21 34 (y2_21).toNatClampNeg) + (1 : Int32)) from (iv_any ((ac_ga s21 34 (y2_21).toNatClampNeg) + (1 : Int32))))
          refine at_aload_n C 0 dX7_packs_43 rfl ?_
          refine gf_X7_26 C dX7_packs_44 ?_
          refine at_iload_n C 1 dX7_packs_47 rfl ?_
          refine at_iald C (c := 34) rfl (iv_in (n := 10) f514 (by decide) (by decide)) dX7_packs_48 ?_
          refine at_aload_n C 0 dX7_packs_49 rfl ?_
          refine gf_X7_7 C dX7_packs_50 ?_
          show AT E 53 [(0, .ref (e_q E 30)), (2, .int y2_21)] [.int (ac_gi s21 16), .int (ac_ga (ac_sa s21 34 (upd (ac_ga s21 34) (y2_21).toNatClampNeg ((ac_ga s21 34 (y2_21).toNatClampNeg) + (1 : Int32)))) 34 (y2_21).toNatClampNeg)] (ac_sa s21 34 (upd (ac_ga s21 34) (y2_21).toNatClampNeg ((ac_ga s21 34 (y2_21).toNatClampNeg) + (1 : Int32))))
          refine at_icmp_ne C 62 dX7_packs_53 (by decide) (fun c517 => ?_) (fun c517 => ?_)
          · refine at_aload_n C 0 dX7_packs_62 rfl ?_
            refine at_iload_n C 1 dX7_packs_63 rfl ?_
            refine at_aload_n C 0 dX7_packs_64 rfl ?_
            refine gf_X7_26 C dX7_packs_65 ?_
            refine at_iload_n C 1 dX7_packs_68 rfl ?_
            refine at_iald C (c := 34) rfl (iv_in (n := 10) f514 (by decide) (by decide)) dX7_packs_69 ?_
            refine at_Vi C (As := [.int y2_21, .int (ac_ga (ac_sa s21 34 (upd (ac_ga s21 34) (y2_21).toNatClampNeg ((ac_ga s21 34 (y2_21).toNatClampNeg) + (1 : Int32)))) 34 (y2_21).toNatClampNeg)]) (st := []) (b := 30) (ci := 7) (ct_X7_mayHave (ac_sa s21 34 (upd (ac_ga s21 34) (y2_21).toNatClampNeg ((ac_ga s21 34 (y2_21).toNatClampNeg) + (1 : Int32)))) y2_21 (ac_ga (ac_sa s21 34 (upd (ac_ga s21 34) (y2_21).toNatClampNeg ((ac_ga s21 34 (y2_21).toNatClampNeg) + (1 : Int32)))) 34 (y2_21).toNatClampNeg) hG516.1 (show iv 0 9 y2_21 from f514)) mb_X7_mayHave ml_X7_120 rfl rfl rfl (by decide) rfl (Nat.le_of_ble_eq_true rfl) dX7_packs_70 ?_
            rintro _ _ ⟨rfl, rfl | rfl⟩
            · refine at_if_eq C 21 dX7_packs_73 (by decide) (fun c521 => ?_) (fun c521 => absurd (iv_xne (iv_c (c := 0) (x := (0 : Int32)) (by decide)) (iv_c (c := 0) (x := (0 : Int32)) (by decide))) c521)
              exact at_sub [0, 1] rfl (ih21 y2_21 (ac_sa s21 34 (upd (ac_ga s21 34) (y2_21).toNatClampNeg ((ac_ga s21 34 (y2_21).toNatClampNeg) + (1 : Int32)))) (Nat.lt_of_lt_of_le (pkB (iv_wk f514 (by decide) (by decide) : iv 0 9 y2_21) (show iv 1 6 (ac_gi s21 16) from (show iv 1 6 (ac_gi s21 16) from hG_21.1.1 16)) (Int32.not_le.mp c512) e0_21 c517).2 (Nat.le_of_lt_succ hm21)) (iv_wk f514 (by decide) (by decide) : iv (-1) 10 y2_21) hG516 (pkB (iv_wk f514 (by decide) (by decide) : iv 0 9 y2_21) (show iv 1 6 (ac_gi s21 16) from (show iv 1 6 (ac_gi s21 16) from hG_21.1.1 16)) (Int32.not_le.mp c512) e0_21 c517).1)
            · refine at_if_eq C 21 dX7_packs_73 (by decide) (fun c522 => absurd c522 (iv_xeq (iv_c (c := 1) (x := (1 : Int32)) (by decide)) (iv_c (c := 0) (x := (0 : Int32)) (by decide)) (by decide))) (fun c522 => ?_)
              refine at_aload_n C 0 dX7_packs_76 rfl ?_
              refine at_iload_n C 1 dX7_packs_77 rfl ?_
              refine at_Vi C (As := [.int y2_21]) (st := []) (b := 30) (ci := 7) (ct_X7_looksGood (ac_sa s21 34 (upd (ac_ga s21 34) (y2_21).toNatClampNeg ((ac_ga s21 34 (y2_21).toNatClampNeg) + (1 : Int32)))) y2_21 hG516.1 (show iv 0 9 y2_21 from f514)) mb_X7_looksGood ml_X7_128 rfl rfl rfl (by decide) rfl (Nat.le_of_ble_eq_true rfl) dX7_packs_78 ?_
              rintro _ _ ⟨rfl, rfl | rfl⟩
              · refine at_if_eq C 21 dX7_packs_81 (by decide) (fun c526 => ?_) (fun c526 => absurd (iv_xne (iv_c (c := 0) (x := (0 : Int32)) (by decide)) (iv_c (c := 0) (x := (0 : Int32)) (by decide))) c526)
                exact at_sub [0, 1] rfl (ih21 y2_21 (ac_sa s21 34 (upd (ac_ga s21 34) (y2_21).toNatClampNeg ((ac_ga s21 34 (y2_21).toNatClampNeg) + (1 : Int32)))) (Nat.lt_of_lt_of_le (pkB (iv_wk f514 (by decide) (by decide) : iv 0 9 y2_21) (show iv 1 6 (ac_gi s21 16) from (show iv 1 6 (ac_gi s21 16) from hG_21.1.1 16)) (Int32.not_le.mp c512) e0_21 c517).2 (Nat.le_of_lt_succ hm21)) (iv_wk f514 (by decide) (by decide) : iv (-1) 10 y2_21) hG516 (pkB (iv_wk f514 (by decide) (by decide) : iv 0 9 y2_21) (show iv 1 6 (ac_gi s21 16) from (show iv 1 6 (ac_gi s21 16) from hG_21.1.1 16)) (Int32.not_le.mp c512) e0_21 c517).1)
              · refine at_if_eq C 21 dX7_packs_81 (by decide) (fun c527 => absurd c527 (iv_xeq (iv_c (c := 1) (x := (1 : Int32)) (by decide)) (iv_c (c := 0) (x := (0 : Int32)) (by decide)) (by decide))) (fun c527 => ?_)
                refine at_iinc C (v := (y2_21 + (1 : Int32))) (lv' := [(2, .int (y2_21 + (1 : Int32))), (0, .ref (e_q E 30))]) 1 dX7_packs_84 rfl rfl hn2 rfl ?_
                refine at_iload_n C 0 dX7_packs_87 rfl ?_
                refine at_aload_n C 1 dX7_packs_88 rfl ?_
                refine gf_X7_106 C dX7_packs_89 ?_
                show AT E 92 [(2, .int (y2_21 + (1 : Int32))), (0, .ref (e_q E 30))] [.int (ac_gi s21 18), .int (y2_21 + (1 : Int32))] (ac_sa s21 34 (upd (ac_ga s21 34) (y2_21).toNatClampNeg ((ac_ga s21 34 (y2_21).toNatClampNeg) + (1 : Int32))))
                refine at_icmp_ge C 21 dX7_packs_92 (by decide) (fun c528 => ?_) (fun c528 => ?_)
                · exact at_sub [1, 0] rfl (ih21 (y2_21 + (1 : Int32)) (ac_sa s21 34 (upd (ac_ga s21 34) (y2_21).toNatClampNeg ((ac_ga s21 34 (y2_21).toNatClampNeg) + (1 : Int32)))) (Nat.lt_of_lt_of_le (pkC (iv_wk f514 (by decide) (by decide) : iv 0 9 y2_21) (show iv 1 6 (ac_gi s21 16) from (show iv 1 6 (ac_gi s21 16) from hG_21.1.1 16)) (Int32.not_le.mp c512) e0_21 c517 c528).2 (Nat.le_of_lt_succ hm21)) (iv_wk (iv_add f514 (iv_c (c := 1) (x := (1 : Int32)) (by decide)) (by decide) (by decide)) (by decide) (by decide) : iv (-1) 10 (y2_21 + (1 : Int32))) hG516 (pkC (iv_wk f514 (by decide) (by decide) : iv 0 9 y2_21) (show iv 1 6 (ac_gi s21 16) from (show iv 1 6 (ac_gi s21 16) from hG_21.1.1 16)) (Int32.not_le.mp c512) e0_21 c517 c528).1)
                · have f529 : iv 1 9 (y2_21 + (1 : Int32)) := (iv_ltl (iv_add f514 (iv_c (c := 1) (x := (1 : Int32)) (by decide)) (by decide) (by decide)) f515 (Int32.not_le.mp c528))
                  have f530 : iv 2 10 (ac_gi s21 18) := (iv_ltr (iv_add f514 (iv_c (c := 1) (x := (1 : Int32)) (by decide)) (by decide) (by decide)) f515 (Int32.not_le.mp c528))
                  refine at_aload_n C 1 dX7_packs_95 rfl ?_
                  refine gf_X7_26 C dX7_packs_96 ?_
                  refine at_iload_n C 0 dX7_packs_99 rfl ?_
                  refine at_iconst C (-1 : Int32) dX7_packs_100 (by decide) ?_
                  refine at_iast C (c := 34) rfl (fun f => ac_ast_34 _ _ _ _ f) (iv_in (n := 10) f529 (by decide) (by decide)) dX7_packs_101 ?_
                  have hG531 := Gd.sa (c := 34) (i := ((y2_21 + (1 : Int32))).toNatClampNeg) hG516 rfl (iv_wk (iv_c (c := (-1)) (x := (-1 : Int32)) (by decide)) (by decide) (by decide) : iv (-2147483648) 2147483647 (-1 : Int32))
                  refine at_goto C 21 dX7_packs_102 (by decide) ?_
                  exact at_sub [1, 0] rfl (ih21 (y2_21 + (1 : Int32)) (ac_sa (ac_sa s21 34 (upd (ac_ga s21 34) (y2_21).toNatClampNeg ((ac_ga s21 34 (y2_21).toNatClampNeg) + (1 : Int32)))) 34 (upd (ac_ga (ac_sa s21 34 (upd (ac_ga s21 34) (y2_21).toNatClampNeg ((ac_ga s21 34 (y2_21).toNatClampNeg) + (1 : Int32)))) 34) ((y2_21 + (1 : Int32))).toNatClampNeg (-1 : Int32))) (Nat.lt_of_lt_of_le (pkD (iv_wk f514 (by decide) (by decide) : iv 0 9 y2_21) (show iv 1 6 (ac_gi s21 16) from (show iv 1 6 (ac_gi s21 16) from hG_21.1.1 16)) (Int32.not_le.mp c512) e0_21 c517).2 (Nat.le_of_lt_succ hm21)) (iv_wk f529 (by decide) (by decide) : iv (-1) 10 (y2_21 + (1 : Int32))) hG531 (pkD (iv_wk f514 (by decide) (by decide) : iv 0 9 y2_21) (show iv 1 6 (ac_gi s21 16) from (show iv 1 6 (ac_gi s21 16) from hG_21.1.1 16)) (Int32.not_le.mp c512) e0_21 c517).1)
          · have f532 : iv 1 6 (ac_ga (ac_sa s21 34 (upd (ac_ga s21 34) (y2_21).toNatClampNeg ((ac_ga s21 34 (y2_21).toNatClampNeg) + (1 : Int32)))) 34 (y2_21).toNatClampNeg) := (iv_eql (show iv 1 6 (ac_gi s21 16) from hG_21.1.1 16) c517)
            refine at_iinc C (v := (y2_21 + (-1 : Int32))) (lv' := [(2, .int (y2_21 + (-1 : Int32))), (0, .ref (e_q E 30))]) 1 dX7_packs_56 rfl rfl hn2 rfl ?_
            refine at_goto C 21 dX7_packs_59 (by decide) ?_
            exact at_sub [1, 0] rfl (ih21 (y2_21 + (-1 : Int32)) (ac_sa s21 34 (upd (ac_ga s21 34) (y2_21).toNatClampNeg ((ac_ga s21 34 (y2_21).toNatClampNeg) + (1 : Int32)))) (Nat.lt_of_lt_of_le (pkA (iv_wk f514 (by decide) (by decide) : iv 0 9 y2_21) (show iv 1 6 (ac_gi s21 16) from (show iv 1 6 (ac_gi s21 16) from hG_21.1.1 16)) (Int32.not_le.mp c512) e0_21 c517).2 (Nat.le_of_lt_succ hm21)) (iv_wk (iv_add f514 (iv_c (c := (-1)) (x := (-1 : Int32)) (by decide)) (by decide) (by decide)) (by decide) (by decide) : iv (-1) 10 (y2_21 + (-1 : Int32))) hG516 (pkA (iv_wk f514 (by decide) (by decide) : iv 0 9 y2_21) (show iv 1 6 (ac_gi s21 16) from (show iv 1 6 (ac_gi s21 16) from hG_21.1.1 16)) (Int32.not_le.mp c512) e0_21 c517).1)
  refine at_aload_n C 0 dX7_packs_0 rfl ?_
  refine at_iload_n C 1 dX7_packs_1 rfl ?_
  refine at_Vv C (As := [.int x1]) (st := []) (b := 30) (ci := 7) (ct_X7_layRow σ x1 hI) mb_X7_layRow ml_X7_113 rfl rfl rfl (by decide) rfl (Nat.le_of_ble_eq_true rfl) dX7_packs_2 ?_
  rintro u533 ⟨hg534, fr535, fr536⟩
  have hG537 := hG0.tr hg534
  refine at_iconst C (0 : Int32) dX7_packs_5 (by decide) ?_
  refine at_istore_n C (lv' := [(2, .int (0 : Int32)), (0, .ref (e_q E 30)), (1, .int x1)]) dX7_packs_6 hn2 rfl ?_
  refine at_aload_n C 1 dX7_packs_7 rfl ?_
  refine gf_X7_106 C dX7_packs_8 ?_
  refine at_if_le C 21 dX7_packs_11 (by decide) (fun c538 => ?_) (fun c538 => ?_)
  · have f539 : iv 0 0 (ac_gi u533 18) := (iv_lel (show iv 0 10 (ac_gi u533 18) from hg534.1.1 18) (iv_c (c := 0) (x := (0 : Int32)) (by decide)) c538)
    exact at_sub [1, 0] rfl (K21 _ (0 : Int32) u533 (Nat.lt_succ_self _) (iv_wk (iv_c (c := 0) (x := (0 : Int32)) (by decide)) (by decide) (by decide) : iv (-1) 10 (0 : Int32)) hG537 (pk_in0 c538))
  · have f540 : iv 1 10 (ac_gi u533 18) := (iv_ltr (iv_c (c := 0) (x := (0 : Int32)) (by decide)) (show iv 0 10 (ac_gi u533 18) from hg534.1.1 18) (Int32.not_le.mp c538))
    refine at_aload_n C 1 dX7_packs_14 rfl ?_
    refine gf_X7_26 C dX7_packs_15 ?_
    refine at_iconst C (0 : Int32) dX7_packs_18 (by decide) ?_
    refine at_iconst C (-1 : Int32) dX7_packs_19 (by decide) ?_
    refine at_iast C (c := 34) rfl (fun f => ac_ast_34 _ _ _ _ f) (iv_in (n := 10) (iv_c (c := 0) (x := (0 : Int32)) (by decide)) (by decide) (by decide)) dX7_packs_20 ?_
    have hG541 := Gd.sa (c := 34) (i := ((0 : Int32)).toNatClampNeg) hG537 rfl (iv_wk (iv_c (c := (-1)) (x := (-1 : Int32)) (by decide)) (by decide) (by decide) : iv (-2147483648) 2147483647 (-1 : Int32))
    exact at_sub [1, 0] rfl (K21 _ (0 : Int32) (ac_sa u533 34 (upd (ac_ga u533 34) ((0 : Int32)).toNatClampNeg (-1 : Int32))) (Nat.lt_succ_self _) (iv_wk (iv_c (c := 0) (x := (0 : Int32)) (by decide)) (by decide) (by decide) : iv (-1) 10 (0 : Int32)) hG541 (pk_in1 (show iv 1 6 (ac_gi u533 16) from (show iv 1 6 (ac_gi u533 16) from hg534.1.1 16))))
