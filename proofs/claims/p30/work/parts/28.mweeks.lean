set_option maxHeartbeats 4000000 in
set_option maxRecDepth 100000 in
theorem ct_X7_isQuiet (σ : SS) (x1 : Int32) (hI : Inv σ) : ConI yX7_isQuiet cX7_isQuiet 7 (some .boolean) 1 (some 30) [.int x1] σ (fun r σ' => σ = σ' ∧ (r = 0 ∨ r = 1)) := by
  refine conZ_of (by decide) (fun q => Nat.le_of_ble_eq_true rfl) (fun r u h => h.2) (fun E C en hR => ?_)
  have hn2 : 2 < e_n E := by rw [en]; decide
  have hn3 : 3 < e_n E := by rw [en]; decide
  have hn4 : 4 < e_n E := by rw [en]; decide
  have hn5 : 5 < e_n E := by rw [en]; decide
  have hn6 : 6 < e_n E := by rw [en]; decide
  have K4 : ∀ (n4 : Nat) (y2_4 : Int32) (y3_4 : Int32), (10 - (y3_4).toInt).toNat < n4 → iv 0 1 y2_4 → iv 0 10 y3_4 → AT E 4 [(0, .ref (e_q E 30)), (1, .int x1), (2, .int y2_4), (3, .int y3_4)] [] σ := by
    intro n4
    induction n4 with
    | zero => intro y2_4 y3_4 hm; exact absurd hm (Nat.not_lt_zero _)
    | succ n4 ih4 =>
      intro y2_4 y3_4 hm4 b2_4 b3_4
      have K19 : ∀ (n19 : Nat) (y2_19 : Int32) (y4_19 : Int32), (9 - (y4_19).toInt).toNat < n19 → iv 0 1 y2_19 → iv 0 9 y3_4 → iv 0 9 y4_19 → AT E 19 [(0, .ref (e_q E 30)), (1, .int x1), (2, .int y2_19), (3, .int y3_4), (4, .int y4_19)] [] σ := by
        intro n19
        induction n19 with
        | zero => intro y2_19 y4_19 hm; exact absurd hm (Nat.not_lt_zero _)
        | succ n19 ih19 =>
          intro y2_19 y4_19 hm19 b2_19 b3_19 b4_19
          refine at_iload C 4 dX7_isQuiet_19 rfl ?_
          refine at_iload_n C 3 dX7_isQuiet_21 rfl ?_
          refine at_icmp_ge C 82 dX7_isQuiet_22 (by decide) (fun c567 => ?_) (fun c567 => ?_)
          · refine at_iinc C (v := (y3_4 + (1 : Int32))) (lv' := [(3, .int (y3_4 + (1 : Int32))), (0, .ref (e_q E 30)), (1, .int x1), (2, .int y2_19), (4, .int y4_19)]) 3 dX7_isQuiet_82 rfl rfl hn3 rfl ?_
            refine at_goto C 4 dX7_isQuiet_85 (by decide) ?_
            exact at_sub [1, 2, 3, 0] rfl (ih4 y2_19 (y3_4 + (1 : Int32)) (mz_up hm4 (ac_ti1 b3_19 (iv_c (c := 1) (x := (1 : Int32)) (by decide)) (by decide) (by decide) (by decide)) (by decide) (iv_wk (iv_add b3_19 (iv_c (c := 1) (x := (1 : Int32)) (by decide)) (by decide) (by decide)) (by decide) (by decide) : iv 0 10 (y3_4 + (1 : Int32))).2) (show iv 0 1 y2_19 from b2_19) (iv_wk (iv_add b3_19 (iv_c (c := 1) (x := (1 : Int32)) (by decide)) (by decide) (by decide)) (by decide) (by decide) : iv 0 10 (y3_4 + (1 : Int32))))
          · have f568 : iv 0 8 y4_19 := (iv_ltl b4_19 b3_19 (Int32.not_le.mp c567))
            have f569 : iv 1 9 y3_4 := (iv_ltr b4_19 b3_19 (Int32.not_le.mp c567))
            refine at_aload_n C 0 dX7_isQuiet_25 rfl ?_
            refine at_iload_n C 3 dX7_isQuiet_26 rfl ?_
            refine at_iload_n C 1 dX7_isQuiet_27 rfl ?_
            refine at_Vi C (As := [.int y3_4, .int x1]) (st := []) (b := 30) (ci := 7) (ct_X7_at σ y3_4 x1 hI (iv_wk f569 (by decide) (by decide) : iv 0 9 y3_4)) mb_X7_at ml_X7_219 rfl rfl rfl (by decide) rfl (Nat.le_of_ble_eq_true rfl) dX7_isQuiet_28 ?_
            rintro r570 _ ⟨rfl, f571⟩
            refine at_istore C (lv' := [(5, .int r570), (0, .ref (e_q E 30)), (1, .int x1), (2, .int y2_19), (3, .int y3_4), (4, .int y4_19)]) dX7_isQuiet_31 hn5 rfl ?_
            refine at_aload_n C 1 dX7_isQuiet_33 rfl ?_
            refine at_iload C 5 dX7_isQuiet_34 rfl ?_
            refine at_iload_n C 2 dX7_isQuiet_36 rfl ?_
            refine at_Vi C (As := [.int y4_19, .int x1]) (st := []) (b := 30) (ci := 7) (ct_X7_at σ y4_19 x1 hI (iv_wk f568 (by decide) (by decide) : iv 0 9 y4_19)) mb_X7_at ml_X7_219 rfl rfl rfl (by decide) rfl (Nat.le_of_ble_eq_true rfl) dX7_isQuiet_37 ?_
            rintro r572 _ ⟨rfl, f573⟩
            refine at_istore C (lv' := [(6, .int r572), (5, .int r570), (0, .ref (e_q E 30)), (1, .int x1), (2, .int y2_19), (3, .int y3_4), (4, .int y4_19)]) dX7_isQuiet_40 hn6 rfl ?_
            refine at_iload_n C 4 dX7_isQuiet_42 rfl ?_
            refine at_if_eq C 74 dX7_isQuiet_43 (by decide) (fun c574 => ?_) (fun c574 => ?_)
            · have f575 : iv 0 0 y2_19 := (iv_eql (iv_c (c := 0) (x := (0 : Int32)) (by decide)) c574)
              refine at_iconst C (0 : Int32) dX7_isQuiet_74 (by decide) ?_
              refine at_istore_n C (lv' := [(2, .int (0 : Int32)), (6, .int r572), (5, .int r570), (0, .ref (e_q E 30)), (1, .int x1), (3, .int y3_4), (4, .int y4_19)]) dX7_isQuiet_75 hn2 rfl ?_
              refine at_iinc C (v := (y4_19 + (1 : Int32))) (lv' := [(4, .int (y4_19 + (1 : Int32))), (2, .int (0 : Int32)), (6, .int r572), (5, .int r570), (0, .ref (e_q E 30)), (1, .int x1), (3, .int y3_4)]) 6 dX7_isQuiet_76 rfl rfl hn4 rfl ?_
              refine at_goto C 19 dX7_isQuiet_79 (by decide) ?_
              exact at_sub [4, 5, 1, 6, 0] rfl (ih19 (0 : Int32) (y4_19 + (1 : Int32)) (mz_up hm19 (ac_ti1 f568 (iv_c (c := 1) (x := (1 : Int32)) (by decide)) (by decide) (by decide) (by decide)) (by decide) (iv_wk (iv_add f568 (iv_c (c := 1) (x := (1 : Int32)) (by decide)) (by decide) (by decide)) (by decide) (by decide) : iv 0 9 (y4_19 + (1 : Int32))).2) (iv_wk (iv_c (c := 0) (x := (0 : Int32)) (by decide)) (by decide) (by decide) : iv 0 1 (0 : Int32)) (iv_wk f569 (by decide) (by decide) : iv 0 9 y3_4) (iv_wk (iv_add f568 (iv_c (c := 1) (x := (1 : Int32)) (by decide)) (by decide) (by decide)) (by decide) (by decide) : iv 0 9 (y4_19 + (1 : Int32))))
            · have f576 : iv 1 1 y2_19 := (iv_nel b2_19 (by decide) c574)
              refine at_iload C 1 dX7_isQuiet_46 rfl ?_
              refine at_if_lt C 70 dX7_isQuiet_48 (by decide) (fun c577 => ?_) (fun c577 => ?_)
              · have f578 : iv (-2147483648) (-1) r570 := (iv_ltl f571 (iv_c (c := 0) (x := (0 : Int32)) (by decide)) c577)
                refine at_iconst C (1 : Int32) dX7_isQuiet_70 (by decide) ?_
                refine at_goto C 75 dX7_isQuiet_71 (by decide) ?_
                refine at_istore_n C (lv' := [(2, .int (1 : Int32)), (6, .int r572), (5, .int r570), (0, .ref (e_q E 30)), (1, .int x1), (3, .int y3_4), (4, .int y4_19)]) dX7_isQuiet_75 hn2 rfl ?_
                refine at_iinc C (v := (y4_19 + (1 : Int32))) (lv' := [(4, .int (y4_19 + (1 : Int32))), (2, .int (1 : Int32)), (6, .int r572), (5, .int r570), (0, .ref (e_q E 30)), (1, .int x1), (3, .int y3_4)]) 6 dX7_isQuiet_76 rfl rfl hn4 rfl ?_
                refine at_goto C 19 dX7_isQuiet_79 (by decide) ?_
                exact at_sub [4, 5, 1, 6, 0] rfl (ih19 (1 : Int32) (y4_19 + (1 : Int32)) (mz_up hm19 (ac_ti1 f568 (iv_c (c := 1) (x := (1 : Int32)) (by decide)) (by decide) (by decide) (by decide)) (by decide) (iv_wk (iv_add f568 (iv_c (c := 1) (x := (1 : Int32)) (by decide)) (by decide) (by decide)) (by decide) (by decide) : iv 0 9 (y4_19 + (1 : Int32))).2) (iv_wk (iv_c (c := 1) (x := (1 : Int32)) (by decide)) (by decide) (by decide) : iv 0 1 (1 : Int32)) (iv_wk f569 (by decide) (by decide) : iv 0 9 y3_4) (iv_wk (iv_add f568 (iv_c (c := 1) (x := (1 : Int32)) (by decide)) (by decide) (by decide)) (by decide) (by decide) : iv 0 9 (y4_19 + (1 : Int32))))
              · have f579 : iv 0 2147483647 r570 := (iv_ler (iv_c (c := 0) (x := (0 : Int32)) (by decide)) f571 (Int32.not_lt.mp c577))
                refine at_iload C 0 dX7_isQuiet_51 rfl ?_
                refine at_if_lt C 70 dX7_isQuiet_53 (by decide) (fun c580 => ?_) (fun c580 => ?_)
                · have f581 : iv (-2147483648) (-1) r572 := (iv_ltl f573 (iv_c (c := 0) (x := (0 : Int32)) (by decide)) c580)
                  refine at_iconst C (1 : Int32) dX7_isQuiet_70 (by decide) ?_
                  refine at_goto C 75 dX7_isQuiet_71 (by decide) ?_
                  refine at_istore_n C (lv' := [(2, .int (1 : Int32)), (6, .int r572), (5, .int r570), (0, .ref (e_q E 30)), (1, .int x1), (3, .int y3_4), (4, .int y4_19)]) dX7_isQuiet_75 hn2 rfl ?_
                  refine at_iinc C (v := (y4_19 + (1 : Int32))) (lv' := [(4, .int (y4_19 + (1 : Int32))), (2, .int (1 : Int32)), (6, .int r572), (5, .int r570), (0, .ref (e_q E 30)), (1, .int x1), (3, .int y3_4)]) 6 dX7_isQuiet_76 rfl rfl hn4 rfl ?_
                  refine at_goto C 19 dX7_isQuiet_79 (by decide) ?_
                  exact at_sub [4, 5, 1, 6, 0] rfl (ih19 (1 : Int32) (y4_19 + (1 : Int32)) (mz_up hm19 (ac_ti1 f568 (iv_c (c := 1) (x := (1 : Int32)) (by decide)) (by decide) (by decide) (by decide)) (by decide) (iv_wk (iv_add f568 (iv_c (c := 1) (x := (1 : Int32)) (by decide)) (by decide) (by decide)) (by decide) (by decide) : iv 0 9 (y4_19 + (1 : Int32))).2) (iv_wk (iv_c (c := 1) (x := (1 : Int32)) (by decide)) (by decide) (by decide) : iv 0 1 (1 : Int32)) (iv_wk f569 (by decide) (by decide) : iv 0 9 y3_4) (iv_wk (iv_add f568 (iv_c (c := 1) (x := (1 : Int32)) (by decide)) (by decide) (by decide)) (by decide) (by decide) : iv 0 9 (y4_19 + (1 : Int32))))
                · have f582 : iv 0 2147483647 r572 := (iv_ler (iv_c (c := 0) (x := (0 : Int32)) (by decide)) f573 (Int32.not_lt.mp c580))
                  refine at_aload_n C 2 dX7_isQuiet_56 rfl ?_
                  refine at_iload_n C 5 dX7_isQuiet_57 rfl ?_
                  refine at_iload C 6 dX7_isQuiet_58 rfl ?_
                  refine at_iload C 1 dX7_isQuiet_60 rfl ?_
                  refine at_iload C 0 dX7_isQuiet_62 rfl ?_
                  refine at_Vi C (As := [.int y3_4, .int y4_19, .int r570, .int r572]) (st := []) (b := 30) (ci := 7) (ct_X7_breaks σ y3_4 y4_19 r570 r572 hI (iv_wk f569 (by decide) (by decide) : iv 0 9 y3_4) (iv_wk f568 (by decide) (by decide) : iv 0 9 y4_19)) mb_X7_breaks ml_X7_109 rfl rfl rfl (by decide) rfl (Nat.le_of_ble_eq_true rfl) dX7_isQuiet_64 ?_
                  rintro _ _ ⟨rfl, rfl | rfl⟩
                  · refine at_if_ne C 74 dX7_isQuiet_67 (by decide) (fun c586 => absurd (iv_xne (iv_c (c := 0) (x := (0 : Int32)) (by decide)) (iv_c (c := 0) (x := (0 : Int32)) (by decide))) c586) (fun c586 => ?_)
                    refine at_iconst C (1 : Int32) dX7_isQuiet_70 (by decide) ?_
                    refine at_goto C 75 dX7_isQuiet_71 (by decide) ?_
                    refine at_istore_n C (lv' := [(2, .int (1 : Int32)), (6, .int r572), (5, .int r570), (0, .ref (e_q E 30)), (1, .int x1), (3, .int y3_4), (4, .int y4_19)]) dX7_isQuiet_75 hn2 rfl ?_
                    refine at_iinc C (v := (y4_19 + (1 : Int32))) (lv' := [(4, .int (y4_19 + (1 : Int32))), (2, .int (1 : Int32)), (6, .int r572), (5, .int r570), (0, .ref (e_q E 30)), (1, .int x1), (3, .int y3_4)]) 6 dX7_isQuiet_76 rfl rfl hn4 rfl ?_
                    refine at_goto C 19 dX7_isQuiet_79 (by decide) ?_
                    exact at_sub [4, 5, 1, 6, 0] rfl (ih19 (1 : Int32) (y4_19 + (1 : Int32)) (mz_up hm19 (ac_ti1 f568 (iv_c (c := 1) (x := (1 : Int32)) (by decide)) (by decide) (by decide) (by decide)) (by decide) (iv_wk (iv_add f568 (iv_c (c := 1) (x := (1 : Int32)) (by decide)) (by decide) (by decide)) (by decide) (by decide) : iv 0 9 (y4_19 + (1 : Int32))).2) (iv_wk (iv_c (c := 1) (x := (1 : Int32)) (by decide)) (by decide) (by decide) : iv 0 1 (1 : Int32)) (iv_wk f569 (by decide) (by decide) : iv 0 9 y3_4) (iv_wk (iv_add f568 (iv_c (c := 1) (x := (1 : Int32)) (by decide)) (by decide) (by decide)) (by decide) (by decide) : iv 0 9 (y4_19 + (1 : Int32))))
                  · refine at_if_ne C 74 dX7_isQuiet_67 (by decide) (fun c587 => ?_) (fun c587 => absurd c587 (iv_xeq (iv_c (c := 1) (x := (1 : Int32)) (by decide)) (iv_c (c := 0) (x := (0 : Int32)) (by decide)) (by decide)))
                    refine at_iconst C (0 : Int32) dX7_isQuiet_74 (by decide) ?_
                    refine at_istore_n C (lv' := [(2, .int (0 : Int32)), (6, .int r572), (5, .int r570), (0, .ref (e_q E 30)), (1, .int x1), (3, .int y3_4), (4, .int y4_19)]) dX7_isQuiet_75 hn2 rfl ?_
                    refine at_iinc C (v := (y4_19 + (1 : Int32))) (lv' := [(4, .int (y4_19 + (1 : Int32))), (2, .int (0 : Int32)), (6, .int r572), (5, .int r570), (0, .ref (e_q E 30)), (1, .int x1), (3, .int y3_4)]) 6 dX7_isQuiet_76 rfl rfl hn4 rfl ?_
                    refine at_goto C 19 dX7_isQuiet_79 (by decide) ?_
                    exact at_sub [4, 5, 1, 6, 0] rfl (ih19 (0 : Int32) (y4_19 + (1 : Int32)) (mz_up hm19 (ac_ti1 f568 (iv_c (c := 1) (x := (1 : Int32)) (by decide)) (by decide) (by decide) (by decide)) (by decide) (iv_wk (iv_add f568 (iv_c (c := 1) (x := (1 : Int32)) (by decide)) (by decide) (by decide)) (by decide) (by decide) : iv 0 9 (y4_19 + (1 : Int32))).2) (iv_wk (iv_c (c := 0) (x := (0 : Int32)) (by decide)) (by decide) (by decide) : iv 0 1 (0 : Int32)) (iv_wk f569 (by decide) (by decide) : iv 0 9 y3_4) (iv_wk (iv_add f568 (iv_c (c := 1) (x := (1 : Int32)) (by decide)) (by decide) (by decide)) (by decide) (by decide) : iv 0 9 (y4_19 + (1 : Int32))))
      refine at_iload_n C 3 dX7_isQuiet_4 rfl ?_
      refine at_aload_n C 0 dX7_isQuiet_5 rfl ?_
      refine gf_X7_87 C dX7_isQuiet_6 ?_
      refine at_icmp_ge C 88 dX7_isQuiet_9 (by decide) (fun c588 => ?_) (fun c588 => ?_)
      · refine at_iload_n C 2 dX7_isQuiet_88 rfl ?_
        exact hR _ _ _ _ dX7_isQuiet_89 ⟨rfl, iv01 (show iv 0 1 y2_4 from b2_4)⟩
      · have f589 : iv 0 9 y3_4 := (iv_ltl b3_4 (show iv 0 10 (ac_gi σ 15) from hI.1 15) (Int32.not_le.mp c588))
        have f590 : iv 1 10 (ac_gi σ 15) := (iv_ltr b3_4 (show iv 0 10 (ac_gi σ 15) from hI.1 15) (Int32.not_le.mp c588))
        refine at_iload_n C 2 dX7_isQuiet_12 rfl ?_
        refine at_if_eq C 88 dX7_isQuiet_13 (by decide) (fun c591 => ?_) (fun c591 => ?_)
        · have f592 : iv 0 0 y2_4 := (iv_eql (iv_c (c := 0) (x := (0 : Int32)) (by decide)) c591)
          refine at_iload_n C 2 dX7_isQuiet_88 rfl ?_
          exact hR _ _ _ _ dX7_isQuiet_89 ⟨rfl, iv01 (iv_wk f592 (by decide) (by decide) : iv 0 1 y2_4)⟩
        · have f593 : iv 1 1 y2_4 := (iv_nel b2_4 (by decide) c591)
          refine at_iconst C (0 : Int32) dX7_isQuiet_16 (by decide) ?_
          refine at_istore C (lv' := [(4, .int (0 : Int32)), (0, .ref (e_q E 30)), (1, .int x1), (2, .int y2_4), (3, .int y3_4)]) dX7_isQuiet_17 hn4 rfl ?_
          exact at_sub [1, 2, 3, 4, 0] rfl (K19 _ y2_4 (0 : Int32) (Nat.lt_succ_self _) (iv_wk f593 (by decide) (by decide) : iv 0 1 y2_4) (show iv 0 9 y3_4 from f589) (iv_wk (iv_c (c := 0) (x := (0 : Int32)) (by decide)) (by decide) (by decide) : iv 0 9 (0 : Int32)))
  refine at_iconst C (1 : Int32) dX7_isQuiet_0 (by decide) ?_
  refine at_istore_n C (lv' := [(2, .int (1 : Int32)), (0, .ref (e_q E 30)), (1, .int x1)]) dX7_isQuiet_1 hn2 rfl ?_
  refine at_iconst C (0 : Int32) dX7_isQuiet_2 (by decide) ?_
  refine at_istore_n C (lv' := [(3, .int (0 : Int32)), (2, .int (1 : Int32)), (0, .ref (e_q E 30)), (1, .int x1)]) dX7_isQuiet_3 hn3 rfl ?_
  exact at_sub [2, 3, 1, 0] rfl (K4 _ (1 : Int32) (0 : Int32) (Nat.lt_succ_self _) (iv_wk (iv_c (c := 1) (x := (1 : Int32)) (by decide)) (by decide) (by decide) : iv 0 1 (1 : Int32)) (iv_wk (iv_c (c := 0) (x := (0 : Int32)) (by decide)) (by decide) (by decide) : iv 0 10 (0 : Int32)))
set_option maxHeartbeats 4000000 in
set_option maxRecDepth 100000 in
theorem ct_X7_findFar (σ : SS) (x1 : Int32) (x2 : Int32) (hI : Inv σ) (g1 : iv 0 1023 x1) : ConV yX7_findFar cX7_findFar 7 none 2 (some 30) [.int x1, .int x2] σ (fun σ' => Gd σ σ') := by
  refine conV_of (by decide) (fun q => Nat.le_of_ble_eq_true rfl) (fun E C en hR => ?_)
  have hn3 : 3 < e_n E := by rw [en]; decide
  have hn4 : 4 < e_n E := by rw [en]; decide
  have hn5 : 5 < e_n E := by rw [en]; decide
  have hn6 : 6 < e_n E := by rw [en]; decide
  have hG0 : Gd σ σ := Gd.rf hI
  have K2 : ∀ (n2 : Nat) (y3_2 : Int32) (s2 : SS), ((y3_2).toInt - (-1)).toNat < n2 → iv (-1) 1023 y3_2 → Gd σ s2 → AT E 2 [(0, .ref (e_q E 30)), (1, .int x1), (2, .int x2), (3, .int y3_2)] [] s2 := by
    intro n2
    induction n2 with
    | zero => intro y3_2 s2 hm; exact absurd hm (Nat.not_lt_zero _)
    | succ n2 ih2 =>
      intro y3_2 s2 hm2 b3_2 hG_2
      have K39 : ∀ (n39 : Nat) (y4_39 : Int32) (y5_39 : Int32) (y6_39 : Int32), ((y6_39).toInt - 0).toNat < n39 → iv 0 1023 y3_2 → iv (-2147483648) 1000 y4_39 → iv 0 1023 y5_39 → iv 0 1023 y6_39 → AT E 39 [(0, .ref (e_q E 30)), (1, .int x1), (2, .int x2), (3, .int y3_2), (4, .int y4_39), (5, .int y5_39), (6, .int y6_39)] [] s2 := by
        intro n39
        induction n39 with
        | zero => intro y4_39 y5_39 y6_39 hm; exact absurd hm (Nat.not_lt_zero _)
        | succ n39 ih39 =>
          intro y4_39 y5_39 y6_39 hm39 b3_39 b4_39 b5_39 b6_39
          refine at_iload C 6 dX7_findFar_39 rfl ?_
          refine at_if_le C 99 dX7_findFar_41 (by decide) (fun c207 => ?_) (fun c207 => ?_)
          · have f208 : iv 0 0 y6_39 := (iv_lel b6_39 (iv_c (c := 0) (x := (0 : Int32)) (by decide)) c207)
            refine at_aload_n C 0 dX7_findFar_99 rfl ?_
            refine gf_X7_81 C dX7_findFar_100 ?_
            refine at_iload_n C 3 dX7_findFar_103 rfl ?_
            refine at_aload_n C 0 dX7_findFar_104 rfl ?_
            refine at_iload_n C 3 dX7_findFar_105 rfl ?_
            refine at_Vi C (As := [.int y3_2]) (st := [.int y3_2, .ref (e_q E 50)]) (b := 30) (ci := 7) (ct_X7_isQuiet s2 y3_2 hG_2.1) mb_X7_isQuiet ml_X7_222 rfl rfl rfl (by decide) rfl (Nat.le_of_ble_eq_true rfl) dX7_findFar_106 ?_
            rintro _ _ ⟨rfl, rfl | rfl⟩
            · refine at_if_eq C 117 dX7_findFar_109 (by decide) (fun c212 => ?_) (fun c212 => absurd (iv_xne (iv_c (c := 0) (x := (0 : Int32)) (by decide)) (iv_c (c := 0) (x := (0 : Int32)) (by decide))) c212)
              refine at_sipush C (1000 : Int32) dX7_findFar_117 (by decide) ?_
              refine at_iast C (c := 50) rfl (fun f => ac_ast_50 _ _ _ _ f) (iv_in (n := 1024) b3_39 (by decide) (by decide)) dX7_findFar_120 ?_
              have hG213 := Gd.sa (c := 50) (i := (y3_2).toNatClampNeg) hG_2 rfl (iv_wk (iv_c (c := 1000) (x := (1000 : Int32)) (by decide)) (by decide) (by decide) : iv (-2147483648) 2147483647 (1000 : Int32))
              refine at_iinc C (v := (y3_2 + (-1 : Int32))) (lv' := [(3, .int (y3_2 + (-1 : Int32))), (0, .ref (e_q E 30)), (1, .int x1), (2, .int x2), (4, .int y4_39), (5, .int y5_39), (6, .int y6_39)]) 3 dX7_findFar_121 rfl rfl hn3 rfl ?_
              refine at_goto C 2 dX7_findFar_124 (by decide) ?_
              exact at_sub [1, 2, 3, 0] rfl (ih2 (y3_2 + (-1 : Int32)) (ac_sa s2 50 (upd (ac_ga s2 50) (y3_2).toNatClampNeg (1000 : Int32))) (mz_dn hm2 (mz_m1 b3_39 (by decide)) (iv_wk (iv_add b3_39 (iv_c (c := (-1)) (x := (-1 : Int32)) (by decide)) (by decide) (by decide)) (by decide) (by decide) : iv (-1) 1023 (y3_2 + (-1 : Int32))).1) (iv_wk (iv_add b3_39 (iv_c (c := (-1)) (x := (-1 : Int32)) (by decide)) (by decide) (by decide)) (by decide) (by decide) : iv (-1) 1023 (y3_2 + (-1 : Int32))) hG213)
            · refine at_if_eq C 117 dX7_findFar_109 (by decide) (fun c214 => absurd c214 (iv_xeq (iv_c (c := 1) (x := (1 : Int32)) (by decide)) (iv_c (c := 0) (x := (0 : Int32)) (by decide)) (by decide))) (fun c214 => ?_)
              refine at_iload C 4 dX7_findFar_112 rfl ?_
              refine at_goto C 120 dX7_findFar_114 (by decide) ?_
              refine at_iast C (c := 50) rfl (fun f => ac_ast_50 _ _ _ _ f) (iv_in (n := 1024) b3_39 (by decide) (by decide)) dX7_findFar_120 ?_
              have hG215 := Gd.sa (c := 50) (i := (y3_2).toNatClampNeg) hG_2 rfl (iv_wk b4_39 (by decide) (by decide) : iv (-2147483648) 2147483647 y4_39)
              refine at_iinc C (v := (y3_2 + (-1 : Int32))) (lv' := [(3, .int (y3_2 + (-1 : Int32))), (0, .ref (e_q E 30)), (1, .int x1), (2, .int x2), (4, .int y4_39), (5, .int y5_39), (6, .int y6_39)]) 3 dX7_findFar_121 rfl rfl hn3 rfl ?_
              refine at_goto C 2 dX7_findFar_124 (by decide) ?_
              exact at_sub [1, 2, 3, 0] rfl (ih2 (y3_2 + (-1 : Int32)) (ac_sa s2 50 (upd (ac_ga s2 50) (y3_2).toNatClampNeg y4_39)) (mz_dn hm2 (mz_m1 b3_39 (by decide)) (iv_wk (iv_add b3_39 (iv_c (c := (-1)) (x := (-1 : Int32)) (by decide)) (by decide) (by decide)) (by decide) (by decide) : iv (-1) 1023 (y3_2 + (-1 : Int32))).1) (iv_wk (iv_add b3_39 (iv_c (c := (-1)) (x := (-1 : Int32)) (by decide)) (by decide) (by decide)) (by decide) (by decide) : iv (-1) 1023 (y3_2 + (-1 : Int32))) hG215)
          · have f216 : iv 1 1023 y6_39 := (iv_ltr (iv_c (c := 0) (x := (0 : Int32)) (by decide)) b6_39 (Int32.not_le.mp c207))
            refine at_iload C 6 dX7_findFar_44 rfl ?_
            refine at_Si C (As := [.int y6_39]) (st := []) (ct_X7_ones s2 y6_39 hG_2.1) mb_X7_ones ml_X7_144 rfl (by decide) rfl (Nat.le_of_ble_eq_true rfl) dX7_findFar_46 ?_
            rintro r217 _ ⟨rfl, f218, mo219⟩
            refine at_iload_n C 2 dX7_findFar_49 rfl ?_
            refine at_icmp_gt C 83 dX7_findFar_50 (by decide) (fun c220 => ?_) (fun c220 => ?_)
            · have f221 : iv (-2147483648) 2147483646 x2 := (iv_ltl (iv_any x2) f218 c220)
              have f222 : iv (-2147483647) 2147483647 r217 := (iv_ltr (iv_any x2) f218 c220)
              refine at_iload C 4 dX7_findFar_83 rfl ?_
              refine at_istore C (lv' := [(4, .int y4_39), (0, .ref (e_q E 30)), (1, .int x1), (2, .int x2), (3, .int y3_2), (5, .int y5_39), (6, .int y6_39)]) dX7_findFar_85 hn4 rfl ?_
              refine at_iload C 6 dX7_findFar_87 rfl ?_
              refine at_iconst C (1 : Int32) dX7_findFar_89 (by decide) ?_
              refine at_isub C dX7_findFar_90 ?_
              refine at_iload C 5 dX7_findFar_91 rfl ?_
              refine at_iand C dX7_findFar_93 ?_
              refine at_istore C (lv' := [(6, .int ((y6_39 - (1 : Int32)) &&& y5_39)), (4, .int y4_39), (0, .ref (e_q E 30)), (1, .int x1), (2, .int x2), (3, .int y3_2), (5, .int y5_39)]) dX7_findFar_94 hn6 rfl ?_
              refine at_goto C 39 dX7_findFar_96 (by decide) ?_
              exact at_sub [2, 3, 4, 5, 1, 6, 0] rfl (ih39 y4_39 y5_39 ((y6_39 - (1 : Int32)) &&& y5_39) (mz_dn hm39 (mz_and f216 (by decide)) (iv_wk (iv_andl (iv_sub f216 (iv_c (c := 1) (x := (1 : Int32)) (by decide)) (by decide) (by decide))) (by decide) (by decide) : iv 0 1023 ((y6_39 - (1 : Int32)) &&& y5_39)).1) (show iv 0 1023 y3_2 from b3_39) (show iv (-2147483648) 1000 y4_39 from b4_39) (show iv 0 1023 y5_39 from b5_39) (iv_wk (iv_andl (iv_sub f216 (iv_c (c := 1) (x := (1 : Int32)) (by decide)) (by decide) (by decide))) (by decide) (by decide) : iv 0 1023 ((y6_39 - (1 : Int32)) &&& y5_39)))
            · refine at_aload_n C 0 dX7_findFar_53 rfl ?_
              refine gf_X7_81 C dX7_findFar_54 ?_
              refine at_iload_n C 3 dX7_findFar_57 rfl ?_
              refine at_iload C 6 dX7_findFar_58 rfl ?_
              refine at_ior C dX7_findFar_60 ?_
              refine at_iald C (c := 50) rfl (iv_in (n := 1024) (iv_or 10 b3_39 (iv_wk (c := 0) f216 (by decide) (Int.le_refl _)) (by decide) (by decide) (by decide)) (by decide) (by decide)) dX7_findFar_61 ?_
              refine at_iconst C (1 : Int32) dX7_findFar_62 (by decide) ?_
              refine at_iadd C dX7_findFar_63 ?_
              refine at_iload C 4 dX7_findFar_64 rfl ?_
              refine at_icmp_ge C 83 dX7_findFar_66 (by decide) (fun c223 => ?_) (fun c223 => ?_)
              · refine at_iload C 4 dX7_findFar_83 rfl ?_
                refine at_istore C (lv' := [(4, .int y4_39), (0, .ref (e_q E 30)), (1, .int x1), (2, .int x2), (3, .int y3_2), (5, .int y5_39), (6, .int y6_39)]) dX7_findFar_85 hn4 rfl ?_
                refine at_iload C 6 dX7_findFar_87 rfl ?_
                refine at_iconst C (1 : Int32) dX7_findFar_89 (by decide) ?_
                refine at_isub C dX7_findFar_90 ?_
                refine at_iload C 5 dX7_findFar_91 rfl ?_
                refine at_iand C dX7_findFar_93 ?_
                refine at_istore C (lv' := [(6, .int ((y6_39 - (1 : Int32)) &&& y5_39)), (4, .int y4_39), (0, .ref (e_q E 30)), (1, .int x1), (2, .int x2), (3, .int y3_2), (5, .int y5_39)]) dX7_findFar_94 hn6 rfl ?_
                refine at_goto C 39 dX7_findFar_96 (by decide) ?_
                exact at_sub [2, 3, 4, 5, 1, 6, 0] rfl (ih39 y4_39 y5_39 ((y6_39 - (1 : Int32)) &&& y5_39) (mz_dn hm39 (mz_and f216 (by decide)) (iv_wk (iv_andl (iv_sub f216 (iv_c (c := 1) (x := (1 : Int32)) (by decide)) (by decide) (by decide))) (by decide) (by decide) : iv 0 1023 ((y6_39 - (1 : Int32)) &&& y5_39)).1) (show iv 0 1023 y3_2 from b3_39) (show iv (-2147483648) 1000 y4_39 from b4_39) (show iv 0 1023 y5_39 from b5_39) (iv_wk (iv_andl (iv_sub f216 (iv_c (c := 1) (x := (1 : Int32)) (by decide)) (by decide) (by decide))) (by decide) (by decide) : iv 0 1023 ((y6_39 - (1 : Int32)) &&& y5_39)))
              · have f224 : iv (-2147483648) 999 ((ac_ga s2 50 ((y3_2 ||| y6_39)).toNatClampNeg) + (1 : Int32)) := (iv_ltl (iv_any ((ac_ga s2 50 ((y3_2 ||| y6_39)).toNatClampNeg) + (1 : Int32))) b4_39 (Int32.not_le.mp c223))
                have f225 : iv (-2147483647) 1000 y4_39 := (iv_ltr (iv_any ((ac_ga s2 50 ((y3_2 ||| y6_39)).toNatClampNeg) + (1 : Int32))) b4_39 (Int32.not_le.mp c223))
                refine at_aload_n C 0 dX7_findFar_69 rfl ?_
                refine gf_X7_81 C dX7_findFar_70 ?_
                refine at_iload_n C 3 dX7_findFar_73 rfl ?_
                refine at_iload C 6 dX7_findFar_74 rfl ?_
                refine at_ior C dX7_findFar_76 ?_
                refine at_iald C (c := 50) rfl (iv_in (n := 1024) (iv_or 10 b3_39 (iv_wk (c := 0) f216 (by decide) (Int.le_refl _)) (by decide) (by decide) (by decide)) (by decide) (by decide)) dX7_findFar_77 ?_
                refine at_iconst C (1 : Int32) dX7_findFar_78 (by decide) ?_
                refine at_iadd C dX7_findFar_79 ?_
                refine at_goto C 85 dX7_findFar_80 (by decide) ?_
                refine at_istore C (lv' := [(4, .int ((ac_ga s2 50 ((y3_2 ||| y6_39)).toNatClampNeg) + (1 : Int32))), (0, .ref (e_q E 30)), (1, .int x1), (2, .int x2), (3, .int y3_2), (5, .int y5_39), (6, .int y6_39)]) dX7_findFar_85 hn4 rfl ?_
                refine at_iload C 6 dX7_findFar_87 rfl ?_
                refine at_iconst C (1 : Int32) dX7_findFar_89 (by decide) ?_
                refine at_isub C dX7_findFar_90 ?_
                refine at_iload C 5 dX7_findFar_91 rfl ?_
                refine at_iand C dX7_findFar_93 ?_
                refine at_istore C (lv' := [(6, .int ((y6_39 - (1 : Int32)) &&& y5_39)), (4, .int ((ac_ga s2 50 ((y3_2 ||| y6_39)).toNatClampNeg) + (1 : Int32))), (0, .ref (e_q E 30)), (1, .int x1), (2, .int x2), (3, .int y3_2), (5, .int y5_39)]) dX7_findFar_94 hn6 rfl ?_
                refine at_goto C 39 dX7_findFar_96 (by decide) ?_
                exact at_sub [2, 3, 4, 5, 1, 6, 0] rfl (ih39 ((ac_ga s2 50 ((y3_2 ||| y6_39)).toNatClampNeg) + (1 : Int32)) y5_39 ((y6_39 - (1 : Int32)) &&& y5_39) (mz_dn hm39 (mz_and f216 (by decide)) (iv_wk (iv_andl (iv_sub f216 (iv_c (c := 1) (x := (1 : Int32)) (by decide)) (by decide) (by decide))) (by decide) (by decide) : iv 0 1023 ((y6_39 - (1 : Int32)) &&& y5_39)).1) (show iv 0 1023 y3_2 from b3_39) (iv_wk f224 (by decide) (by decide) : iv (-2147483648) 1000 ((ac_ga s2 50 ((y3_2 ||| y6_39)).toNatClampNeg) + (1 : Int32))) (show iv 0 1023 y5_39 from b5_39) (iv_wk (iv_andl (iv_sub f216 (iv_c (c := 1) (x := (1 : Int32)) (by decide)) (by decide) (by decide))) (by decide) (by decide) : iv 0 1023 ((y6_39 - (1 : Int32)) &&& y5_39)))
      refine at_iload_n C 3 dX7_findFar_2 rfl ?_
      refine at_if_lt C 127 dX7_findFar_3 (by decide) (fun c226 => ?_) (fun c226 => ?_)
      · have f227 : iv (-1) (-1) y3_2 := (iv_ltl b3_2 (iv_c (c := 0) (x := (0 : Int32)) (by decide)) c226)
        exact hR _ _ _ dX7_findFar_127 hG_2
      · have f228 : iv 0 1023 y3_2 := (iv_ler (iv_c (c := 0) (x := (0 : Int32)) (by decide)) b3_2 (Int32.not_lt.mp c226))
        refine at_iload_n C 3 dX7_findFar_6 rfl ?_
        refine at_iload_n C 1 dX7_findFar_7 rfl ?_
        refine at_iconst C (-1 : Int32) dX7_findFar_8 (by decide) ?_
        refine at_ixor C dX7_findFar_9 ?_
        refine at_iand C dX7_findFar_10 ?_
        refine at_if_ne C 121 dX7_findFar_11 (by decide) (fun c229 => ?_) (fun c229 => ?_)
        · have f230 : iv 1 1023 (y3_2 &&& (x1 ^^^ (-1 : Int32))) := (iv_nel (iv_andl f228) (by decide) c229)
          refine at_iinc C (v := (y3_2 + (-1 : Int32))) (lv' := [(3, .int (y3_2 + (-1 : Int32))), (0, .ref (e_q E 30)), (1, .int x1), (2, .int x2)]) 3 dX7_findFar_121 rfl rfl hn3 rfl ?_
          refine at_goto C 2 dX7_findFar_124 (by decide) ?_
          exact at_sub [1, 2, 3, 0] rfl (ih2 (y3_2 + (-1 : Int32)) s2 (mz_dn hm2 (mz_m1 f228 (by decide)) (iv_wk (iv_add f228 (iv_c (c := (-1)) (x := (-1 : Int32)) (by decide)) (by decide) (by decide)) (by decide) (by decide) : iv (-1) 1023 (y3_2 + (-1 : Int32))).1) (iv_wk (iv_add f228 (iv_c (c := (-1)) (x := (-1 : Int32)) (by decide)) (by decide) (by decide)) (by decide) (by decide) : iv (-1) 1023 (y3_2 + (-1 : Int32))) hG_2)
        · have f231 : iv 0 0 (y3_2 &&& (x1 ^^^ (-1 : Int32))) := (iv_eql (iv_c (c := 0) (x := (0 : Int32)) (by decide)) c229)
          refine at_iload_n C 3 dX7_findFar_14 rfl ?_
          refine at_iload_n C 1 dX7_findFar_15 rfl ?_
          refine at_icmp_ne C 23 dX7_findFar_16 (by decide) (fun c232 => ?_) (fun c232 => ?_)
          · refine at_sipush C (1000 : Int32) dX7_findFar_23 (by decide) ?_
            refine at_istore C (lv' := [(4, .int (1000 : Int32)), (0, .ref (e_q E 30)), (1, .int x1), (2, .int x2), (3, .int y3_2)]) dX7_findFar_26 hn4 rfl ?_
            refine at_iload_n C 2 dX7_findFar_28 rfl ?_
            refine at_iload_n C 4 dX7_findFar_29 rfl ?_
            refine at_iconst C (-1 : Int32) dX7_findFar_30 (by decide) ?_
            refine at_ixor C dX7_findFar_31 ?_
            refine at_iand C dX7_findFar_32 ?_
            refine at_istore C (lv' := [(5, .int (x1 &&& (y3_2 ^^^ (-1 : Int32)))), (4, .int (1000 : Int32)), (0, .ref (e_q E 30)), (1, .int x1), (2, .int x2), (3, .int y3_2)]) dX7_findFar_33 hn5 rfl ?_
            refine at_iload C 0 dX7_findFar_35 rfl ?_
            refine at_istore C (lv' := [(6, .int (x1 &&& (y3_2 ^^^ (-1 : Int32)))), (5, .int (x1 &&& (y3_2 ^^^ (-1 : Int32)))), (4, .int (1000 : Int32)), (0, .ref (e_q E 30)), (1, .int x1), (2, .int x2), (3, .int y3_2)]) dX7_findFar_37 hn6 rfl ?_
            exact at_sub [3, 4, 5, 6, 2, 1, 0] rfl (K39 _ (1000 : Int32) (x1 &&& (y3_2 ^^^ (-1 : Int32))) (x1 &&& (y3_2 ^^^ (-1 : Int32))) (Nat.lt_succ_self _) (show iv 0 1023 y3_2 from f228) (iv_wk (iv_c (c := 1000) (x := (1000 : Int32)) (by decide)) (by decide) (by decide) : iv (-2147483648) 1000 (1000 : Int32)) (show iv 0 1023 (x1 &&& (y3_2 ^^^ (-1 : Int32))) from (iv_andl g1)) (show iv 0 1023 (x1 &&& (y3_2 ^^^ (-1 : Int32))) from (iv_andl g1)))
          · refine at_iconst C (0 : Int32) dX7_findFar_19 (by decide) ?_
            refine at_goto C 26 dX7_findFar_20 (by decide) ?_
            refine at_istore C (lv' := [(4, .int (0 : Int32)), (0, .ref (e_q E 30)), (1, .int x1), (2, .int x2), (3, .int y3_2)]) dX7_findFar_26 hn4 rfl ?_
            refine at_iload_n C 2 dX7_findFar_28 rfl ?_
            refine at_iload_n C 4 dX7_findFar_29 rfl ?_
            refine at_iconst C (-1 : Int32) dX7_findFar_30 (by decide) ?_
            refine at_ixor C dX7_findFar_31 ?_
            refine at_iand C dX7_findFar_32 ?_
            refine at_istore C (lv' := [(5, .int (x1 &&& (y3_2 ^^^ (-1 : Int32)))), (4, .int (0 : Int32)), (0, .ref (e_q E 30)), (1, .int x1), (2, .int x2), (3, .int y3_2)]) dX7_findFar_33 hn5 rfl ?_
            refine at_iload C 0 dX7_findFar_35 rfl ?_
            refine at_istore C (lv' := [(6, .int (x1 &&& (y3_2 ^^^ (-1 : Int32)))), (5, .int (x1 &&& (y3_2 ^^^ (-1 : Int32)))), (4, .int (0 : Int32)), (0, .ref (e_q E 30)), (1, .int x1), (2, .int x2), (3, .int y3_2)]) dX7_findFar_37 hn6 rfl ?_
            exact at_sub [3, 4, 5, 6, 2, 1, 0] rfl (K39 _ (0 : Int32) (x1 &&& (y3_2 ^^^ (-1 : Int32))) (x1 &&& (y3_2 ^^^ (-1 : Int32))) (Nat.lt_succ_self _) (show iv 0 1023 y3_2 from f228) (iv_wk (iv_c (c := 0) (x := (0 : Int32)) (by decide)) (by decide) (by decide) : iv (-2147483648) 1000 (0 : Int32)) (show iv 0 1023 (x1 &&& (y3_2 ^^^ (-1 : Int32))) from (iv_andl g1)) (show iv 0 1023 (x1 &&& (y3_2 ^^^ (-1 : Int32))) from (iv_andl g1)))
  refine at_iload_n C 1 dX7_findFar_0 rfl ?_
  refine at_istore_n C (lv' := [(3, .int x1), (0, .ref (e_q E 30)), (1, .int x1), (2, .int x2)]) dX7_findFar_1 hn3 rfl ?_
  exact at_sub [1, 2, 3, 0] rfl (K2 _ x1 σ (Nat.lt_succ_self _) (iv_wk g1 (by decide) (by decide) : iv (-1) 1023 x1) hG0)
set_option maxHeartbeats 4000000 in
set_option maxRecDepth 100000 in
theorem ct_X7_weeks (σ : SS) (x1 : Int32) (x2 : Int32) (hI : Inv σ) : ConI yX7_weeks cX7_weeks 9 (some .int) 3 (some 30) [.int x1, .int x2] σ (fun r σ' => Gd σ σ' ∧ iv (-2147483648) 2147483647 r) := by
  refine conI_of (by decide) (fun q => Nat.le_of_ble_eq_true rfl) (fun E C en hR => ?_)
  have hn3 : 3 < e_n E := by rw [en]; decide
  have hn4 : 4 < e_n E := by rw [en]; decide
  have hn5 : 5 < e_n E := by rw [en]; decide
  have hn6 : 6 < e_n E := by rw [en]; decide
  have hn7 : 7 < e_n E := by rw [en]; decide
  have hn8 : 8 < e_n E := by rw [en]; decide
  have hG0 : Gd σ σ := Gd.rf hI
  have K110 : ∀ (n110 : Nat) (y3_110 : Int32) (y4_110 : Int32) (y5_110 : Int32) (s110 : SS), ((x2).toInt - (y5_110).toInt).toNat < n110 → iv 1 10 x1 → iv 0 2147483647 x2 → iv 0 1023 y3_110 → iv 0 1023 y4_110 → iv 0 2147483647 y5_110 → Gd σ s110 → ((y5_110).toInt ≤ (x2).toInt) → AT E 110 [(0, .ref (e_q E 30)), (1, .int x1), (2, .int x2), (3, .int y3_110), (4, .int y4_110), (5, .int y5_110)] [] s110 := by
    intro n110
    induction n110 with
    | zero => intro y3_110 y4_110 y5_110 s110 hm; exact absurd hm (Nat.not_lt_zero _)
    | succ n110 ih110 =>
      intro y3_110 y4_110 y5_110 s110 hm110 b1_110 b2_110 b3_110 b4_110 b5_110 hG_110 e0_110
      have K131 : ∀ (n131 : Nat) (y6_131 : Int32) (y7_131 : Int32) (y8_131 : Int32), ((y8_131).toInt - 0).toNat < n131 → iv 0 1023 y6_131 → iv 0 1023 y7_131 → iv 0 1023 y8_131 → AT E 131 [(0, .ref (e_q E 30)), (1, .int x1), (2, .int x2), (3, .int y3_110), (4, .int y4_110), (5, .int y5_110), (6, .int y6_131), (7, .int y7_131), (8, .int y8_131)] [] s110 := by
        intro n131
        induction n131 with
        | zero => intro y6_131 y7_131 y8_131 hm; exact absurd hm (Nat.not_lt_zero _)
        | succ n131 ih131 =>
          intro y6_131 y7_131 y8_131 hm131 b6_131 b7_131 b8_131
          refine at_iload C 8 dX7_weeks_131 rfl ?_
          refine at_if_le C 188 dX7_weeks_133 (by decide) (fun c1677 => ?_) (fun c1677 => ?_)
          · have f1678 : iv 0 0 y8_131 := (iv_lel b8_131 (iv_c (c := 0) (x := (0 : Int32)) (by decide)) c1677)
            refine at_iload C 5 dX7_weeks_188 rfl ?_
            refine at_iload_n C 2 dX7_weeks_190 rfl ?_
            refine at_icmp_ne C 197 dX7_weeks_191 (by decide) (fun c1679 => ?_) (fun c1679 => ?_)
            · have f1680 : iv 0 2147483646 y5_110 := ⟨(show iv 0 2147483647 y5_110 from b5_110).1, by have q0 := e0_110; have q1 := iv_ne c1679; have q2 := (iv_any x2).2; omega⟩
              refine at_iload C 4 dX7_weeks_197 rfl ?_
              refine at_iload C 6 dX7_weeks_199 rfl ?_
              refine at_ior C dX7_weeks_201 ?_
              refine at_istore C (lv' := [(4, .int (y4_110 ||| y6_131)), (0, .ref (e_q E 30)), (1, .int x1), (2, .int x2), (3, .int y3_110), (5, .int y5_110), (6, .int y6_131), (7, .int y7_131), (8, .int y8_131)]) dX7_weeks_202 hn4 rfl ?_
              refine at_iinc C (v := (y5_110 + (1 : Int32))) (lv' := [(5, .int (y5_110 + (1 : Int32))), (4, .int (y4_110 ||| y6_131)), (0, .ref (e_q E 30)), (1, .int x1), (2, .int x2), (3, .int y3_110), (6, .int y6_131), (7, .int y7_131), (8, .int y8_131)]) 5 dX7_weeks_204 rfl rfl hn5 rfl ?_
              refine at_goto C 110 dX7_weeks_207 (by decide) ?_
              exact at_sub [2, 3, 4, 5, 1, 0] rfl (ih110 y3_110 (y4_110 ||| y6_131) (y5_110 + (1 : Int32)) s110 (show ((x2).toInt - ((y5_110 + (1 : Int32))).toInt).toNat < n110 from by have q9 := hm110; have q0 := e0_110; have q1 := iv_ne c1679; have q2 := ac_ti1 f1680 (iv_c (c := 1) (x := (1 : Int32)) (by decide)) (by decide) (by decide) (by decide); omega) (show iv 1 10 x1 from b1_110) (show iv 0 2147483647 x2 from b2_110) (show iv 0 1023 y3_110 from b3_110) (show iv 0 1023 (y4_110 ||| y6_131) from (iv_or 10 b4_110 b6_131 (by decide) (by decide) (by decide))) (iv_wk (iv_add f1680 (iv_c (c := 1) (x := (1 : Int32)) (by decide)) (by decide) (by decide)) (by decide) (by decide) : iv 0 2147483647 (y5_110 + (1 : Int32))) hG_110 (by have q0 := e0_110; have q1 := iv_ne c1679; have q2 := ac_ti1 f1680 (iv_c (c := 1) (x := (1 : Int32)) (by decide)) (by decide) (by decide) (by decide); omega))
            · refine at_iload C 6 dX7_weeks_194 rfl ?_
              exact hR _ _ _ _ dX7_weeks_196 ⟨hG_110, (iv_wk b6_131 (by decide) (by decide) : iv (-2147483648) 2147483647 y6_131)⟩
          · have f1681 : iv 1 1023 y8_131 := (iv_ltr (iv_c (c := 0) (x := (0 : Int32)) (by decide)) b8_131 (Int32.not_le.mp c1677))
            refine at_iload C 8 dX7_weeks_136 rfl ?_
            refine at_Si C (As := [.int y8_131]) (st := []) (ct_X7_ones s110 y8_131 hG_110.1) mb_X7_ones ml_X7_144 rfl (by decide) rfl (Nat.le_of_ble_eq_true rfl) dX7_weeks_138 ?_
            rintro r1682 _ ⟨rfl, f1683, mo1684⟩
            refine at_iload_n C 1 dX7_weeks_141 rfl ?_
            refine at_icmp_gt C 172 dX7_weeks_142 (by decide) (fun c1685 => ?_) (fun c1685 => ?_)
            · have f1686 : iv 2 2147483647 r1682 := (iv_ltr b1_110 f1683 c1685)
              refine at_iload C 6 dX7_weeks_172 rfl ?_
              refine at_istore C (lv' := [(6, .int y6_131), (0, .ref (e_q E 30)), (1, .int x1), (2, .int x2), (3, .int y3_110), (4, .int y4_110), (5, .int y5_110), (7, .int y7_131), (8, .int y8_131)]) dX7_weeks_174 hn6 rfl ?_
              refine at_iload C 8 dX7_weeks_176 rfl ?_
              refine at_iconst C (1 : Int32) dX7_weeks_178 (by decide) ?_
              refine at_isub C dX7_weeks_179 ?_
              refine at_iload C 7 dX7_weeks_180 rfl ?_
              refine at_iand C dX7_weeks_182 ?_
              refine at_istore C (lv' := [(8, .int ((y8_131 - (1 : Int32)) &&& y7_131)), (6, .int y6_131), (0, .ref (e_q E 30)), (1, .int x1), (2, .int x2), (3, .int y3_110), (4, .int y4_110), (5, .int y5_110), (7, .int y7_131)]) dX7_weeks_183 hn8 rfl ?_
              refine at_goto C 131 dX7_weeks_185 (by decide) ?_
              exact at_sub [2, 3, 4, 5, 6, 7, 1, 8, 0] rfl (ih131 y6_131 y7_131 ((y8_131 - (1 : Int32)) &&& y7_131) (mz_dn hm131 (mz_and f1681 (by decide)) (iv_wk (iv_andl (iv_sub f1681 (iv_c (c := 1) (x := (1 : Int32)) (by decide)) (by decide) (by decide))) (by decide) (by decide) : iv 0 1023 ((y8_131 - (1 : Int32)) &&& y7_131)).1) (show iv 0 1023 y6_131 from b6_131) (show iv 0 1023 y7_131 from b7_131) (iv_wk (iv_andl (iv_sub f1681 (iv_c (c := 1) (x := (1 : Int32)) (by decide)) (by decide) (by decide))) (by decide) (by decide) : iv 0 1023 ((y8_131 - (1 : Int32)) &&& y7_131)))
            · have f1687 : iv (-2147483648) 10 r1682 := (iv_lel f1683 b1_110 (Int32.not_lt.mp c1685))
              refine at_aload_n C 0 dX7_weeks_145 rfl ?_
              refine gf_X7_81 C dX7_weeks_146 ?_
              refine at_iload C 4 dX7_weeks_149 rfl ?_
              refine at_iload C 8 dX7_weeks_151 rfl ?_
              refine at_ior C dX7_weeks_153 ?_
              refine at_iald C (c := 50) rfl (iv_in (n := 1024) (iv_or 10 b4_110 (iv_wk (c := 0) f1681 (by decide) (Int.le_refl _)) (by decide) (by decide) (by decide)) (by decide) (by decide)) dX7_weeks_154 ?_
              refine at_iconst C (1 : Int32) dX7_weeks_155 (by decide) ?_
              refine at_iadd C dX7_weeks_156 ?_
              refine at_aload_n C 0 dX7_weeks_157 rfl ?_
              refine gf_X7_81 C dX7_weeks_158 ?_
              refine at_iload C 4 dX7_weeks_161 rfl ?_
              refine at_iald C (c := 50) rfl (iv_in (n := 1024) b4_110 (by decide) (by decide)) dX7_weeks_163 ?_
              refine at_icmp_ne C 172 dX7_weeks_164 (by decide) (fun c1688 => ?_) (fun c1688 => ?_)
              · refine at_iload C 6 dX7_weeks_172 rfl ?_
                refine at_istore C (lv' := [(6, .int y6_131), (0, .ref (e_q E 30)), (1, .int x1), (2, .int x2), (3, .int y3_110), (4, .int y4_110), (5, .int y5_110), (7, .int y7_131), (8, .int y8_131)]) dX7_weeks_174 hn6 rfl ?_
                refine at_iload C 8 dX7_weeks_176 rfl ?_
                refine at_iconst C (1 : Int32) dX7_weeks_178 (by decide) ?_
                refine at_isub C dX7_weeks_179 ?_
                refine at_iload C 7 dX7_weeks_180 rfl ?_
                refine at_iand C dX7_weeks_182 ?_
                refine at_istore C (lv' := [(8, .int ((y8_131 - (1 : Int32)) &&& y7_131)), (6, .int y6_131), (0, .ref (e_q E 30)), (1, .int x1), (2, .int x2), (3, .int y3_110), (4, .int y4_110), (5, .int y5_110), (7, .int y7_131)]) dX7_weeks_183 hn8 rfl ?_
                refine at_goto C 131 dX7_weeks_185 (by decide) ?_
                exact at_sub [2, 3, 4, 5, 6, 7, 1, 8, 0] rfl (ih131 y6_131 y7_131 ((y8_131 - (1 : Int32)) &&& y7_131) (mz_dn hm131 (mz_and f1681 (by decide)) (iv_wk (iv_andl (iv_sub f1681 (iv_c (c := 1) (x := (1 : Int32)) (by decide)) (by decide) (by decide))) (by decide) (by decide) : iv 0 1023 ((y8_131 - (1 : Int32)) &&& y7_131)).1) (show iv 0 1023 y6_131 from b6_131) (show iv 0 1023 y7_131 from b7_131) (iv_wk (iv_andl (iv_sub f1681 (iv_c (c := 1) (x := (1 : Int32)) (by decide)) (by decide) (by decide))) (by decide) (by decide) : iv 0 1023 ((y8_131 - (1 : Int32)) &&& y7_131)))
              · refine at_iload C 8 dX7_weeks_167 rfl ?_
                refine at_goto C 174 dX7_weeks_169 (by decide) ?_
                refine at_istore C (lv' := [(6, .int y8_131), (0, .ref (e_q E 30)), (1, .int x1), (2, .int x2), (3, .int y3_110), (4, .int y4_110), (5, .int y5_110), (7, .int y7_131), (8, .int y8_131)]) dX7_weeks_174 hn6 rfl ?_
                refine at_iload C 8 dX7_weeks_176 rfl ?_
                refine at_iconst C (1 : Int32) dX7_weeks_178 (by decide) ?_
                refine at_isub C dX7_weeks_179 ?_
                refine at_iload C 7 dX7_weeks_180 rfl ?_
                refine at_iand C dX7_weeks_182 ?_
                refine at_istore C (lv' := [(8, .int ((y8_131 - (1 : Int32)) &&& y7_131)), (6, .int y8_131), (0, .ref (e_q E 30)), (1, .int x1), (2, .int x2), (3, .int y3_110), (4, .int y4_110), (5, .int y5_110), (7, .int y7_131)]) dX7_weeks_183 hn8 rfl ?_
                refine at_goto C 131 dX7_weeks_185 (by decide) ?_
                exact at_sub [2, 3, 4, 5, 6, 7, 1, 8, 0] rfl (ih131 y8_131 y7_131 ((y8_131 - (1 : Int32)) &&& y7_131) (mz_dn hm131 (mz_and f1681 (by decide)) (iv_wk (iv_andl (iv_sub f1681 (iv_c (c := 1) (x := (1 : Int32)) (by decide)) (by decide) (by decide))) (by decide) (by decide) : iv 0 1023 ((y8_131 - (1 : Int32)) &&& y7_131)).1) (iv_wk f1681 (by decide) (by decide) : iv 0 1023 y8_131) (show iv 0 1023 y7_131 from b7_131) (iv_wk (iv_andl (iv_sub f1681 (iv_c (c := 1) (x := (1 : Int32)) (by decide)) (by decide) (by decide))) (by decide) (by decide) : iv 0 1023 ((y8_131 - (1 : Int32)) &&& y7_131)))
      refine at_iload C 4 dX7_weeks_110 rfl ?_
      refine at_iload_n C 3 dX7_weeks_112 rfl ?_
      refine at_icmp_eq C 210 dX7_weeks_113 (by decide) (fun c1689 => ?_) (fun c1689 => ?_)
      · refine at_iconst C (-1 : Int32) dX7_weeks_210 (by decide) ?_
        exact hR _ _ _ _ dX7_weeks_211 ⟨hG_110, (iv_wk (iv_c (c := (-1)) (x := (-1 : Int32)) (by decide)) (by decide) (by decide) : iv (-2147483648) 2147483647 (-1 : Int32))⟩
      · refine at_iconst C (0 : Int32) dX7_weeks_116 (by decide) ?_
        refine at_istore C (lv' := [(6, .int (0 : Int32)), (0, .ref (e_q E 30)), (1, .int x1), (2, .int x2), (3, .int y3_110), (4, .int y4_110), (5, .int y5_110)]) dX7_weeks_117 hn6 rfl ?_
        refine at_iload_n C 4 dX7_weeks_119 rfl ?_
        refine at_iload C 5 dX7_weeks_120 rfl ?_
        refine at_iconst C (-1 : Int32) dX7_weeks_122 (by decide) ?_
        refine at_ixor C dX7_weeks_123 ?_
        refine at_iand C dX7_weeks_124 ?_
        refine at_istore C (lv' := [(7, .int (y3_110 &&& (y4_110 ^^^ (-1 : Int32)))), (6, .int (0 : Int32)), (0, .ref (e_q E 30)), (1, .int x1), (2, .int x2), (3, .int y3_110), (4, .int y4_110), (5, .int y5_110)]) dX7_weeks_125 hn7 rfl ?_
        refine at_iload C 0 dX7_weeks_127 rfl ?_
        refine at_istore C (lv' := [(8, .int (y3_110 &&& (y4_110 ^^^ (-1 : Int32)))), (7, .int (y3_110 &&& (y4_110 ^^^ (-1 : Int32)))), (6, .int (0 : Int32)), (0, .ref (e_q E 30)), (1, .int x1), (2, .int x2), (3, .int y3_110), (4, .int y4_110), (5, .int y5_110)]) dX7_weeks_129 hn8 rfl ?_
        exact at_sub [3, 4, 5, 6, 7, 8, 2, 1, 0] rfl (K131 _ (0 : Int32) (y3_110 &&& (y4_110 ^^^ (-1 : Int32))) (y3_110 &&& (y4_110 ^^^ (-1 : Int32))) (Nat.lt_succ_self _) (iv_wk (iv_c (c := 0) (x := (0 : Int32)) (by decide)) (by decide) (by decide) : iv 0 1023 (0 : Int32)) (show iv 0 1023 (y3_110 &&& (y4_110 ^^^ (-1 : Int32))) from (iv_andl b3_110)) (show iv 0 1023 (y3_110 &&& (y4_110 ^^^ (-1 : Int32))) from (iv_andl b3_110)))
  have K25 : ∀ (n25 : Nat) (y3_25 : Int32) (y4_25 : Int32), (10 - (y4_25).toInt).toNat < n25 → iv 1 10 x1 → iv (-1) 2147483647 x2 → iv 0 1023 y3_25 → iv 0 10 y4_25 → AT E 25 [(0, .ref (e_q E 30)), (1, .int x1), (2, .int x2), (3, .int y3_25), (4, .int y4_25)] [] σ := by
    intro n25
    induction n25 with
    | zero => intro y3_25 y4_25 hm; exact absurd hm (Nat.not_lt_zero _)
    | succ n25 ih25 =>
      intro y3_25 y4_25 hm25 b1_25 b2_25 b3_25 b4_25
      refine at_iload C 4 dX7_weeks_25 rfl ?_
      refine at_aload_n C 0 dX7_weeks_27 rfl ?_
      refine gf_X7_87 C dX7_weeks_28 ?_
      refine at_icmp_ge C 71 dX7_weeks_31 (by decide) (fun c1690 => ?_) (fun c1690 => ?_)
      · refine at_aload_n C 0 dX7_weeks_71 rfl ?_
        refine at_iload_n C 3 dX7_weeks_72 rfl ?_
        refine at_iload_n C 1 dX7_weeks_73 rfl ?_
        refine at_Vv C (As := [.int y3_25, .int x1]) (st := []) (b := 30) (ci := 7) (ct_X7_findFar σ y3_25 x1 hI (show iv 0 1023 y3_25 from b3_25)) mb_X7_findFar ml_X7_225 rfl rfl rfl (by decide) rfl (Nat.le_of_ble_eq_true rfl) dX7_weeks_74 ?_
        rintro u1691 hg1692
        have hG1693 := hG0.tr hg1692
        refine at_aload_n C 0 dX7_weeks_77 rfl ?_
        refine gf_X7_81 C dX7_weeks_78 ?_
        refine at_iconst C (0 : Int32) dX7_weeks_81 (by decide) ?_
        refine at_iald C (c := 50) rfl (iv_in (n := 1024) (iv_c (c := 0) (x := (0 : Int32)) (by decide)) (by decide) (by decide)) dX7_weeks_82 ?_
        refine at_sipush C (1000 : Int32) dX7_weeks_83 (by decide) ?_
        refine at_icmp_lt C 92 dX7_weeks_86 (by decide) (fun c1694 => ?_) (fun c1694 => ?_)
        · have f1695 : iv (-2147483648) 999 (ac_ga u1691 50 ((0 : Int32)).toNatClampNeg) := (iv_ltl (iv_any (ac_ga u1691 50 ((0 : Int32)).toNatClampNeg)) (iv_c (c := 1000) (x := (1000 : Int32)) (by decide)) c1694)
          refine at_iload_n C 2 dX7_weeks_92 rfl ?_
          refine at_iconst C (-1 : Int32) dX7_weeks_93 (by decide) ?_
          refine at_icmp_ne C 104 dX7_weeks_94 (by decide) (fun c1696 => ?_) (fun c1696 => ?_)
          · have f1697 : iv 0 2147483647 x2 := (iv_nel b2_25 (by decide) c1696)
            refine at_iconst C (0 : Int32) dX7_weeks_104 (by decide) ?_
            refine at_istore C (lv' := [(4, .int (0 : Int32)), (0, .ref (e_q E 30)), (1, .int x1), (2, .int x2), (3, .int y3_25)]) dX7_weeks_105 hn4 rfl ?_
            refine at_iconst C (0 : Int32) dX7_weeks_107 (by decide) ?_
            refine at_istore C (lv' := [(5, .int (0 : Int32)), (4, .int (0 : Int32)), (0, .ref (e_q E 30)), (1, .int x1), (2, .int x2), (3, .int y3_25)]) dX7_weeks_108 hn5 rfl ?_
            exact at_sub [2, 3, 4, 5, 1, 0] rfl (K110 _ y3_25 (0 : Int32) (0 : Int32) u1691 (Nat.lt_succ_self _) (show iv 1 10 x1 from b1_25) (show iv 0 2147483647 x2 from f1697) (show iv 0 1023 y3_25 from b3_25) (iv_wk (iv_c (c := 0) (x := (0 : Int32)) (by decide)) (by decide) (by decide) : iv 0 1023 (0 : Int32)) (iv_wk (iv_c (c := 0) (x := (0 : Int32)) (by decide)) (by decide) (by decide) : iv 0 2147483647 (0 : Int32)) hG1693 (by have q := (show iv 0 2147483647 x2 from f1697).1; have q2 : (0 : Int32).toInt = 0 := (by decide); omega))
          · have f1698 : iv (-1) (-1) x2 := (iv_eql (iv_c (c := (-1)) (x := (-1 : Int32)) (by decide)) c1696)
            refine at_aload_n C 0 dX7_weeks_97 rfl ?_
            refine gf_X7_81 C dX7_weeks_98 ?_
            refine at_iconst C (0 : Int32) dX7_weeks_101 (by decide) ?_
            refine at_iald C (c := 50) rfl (iv_in (n := 1024) (iv_c (c := 0) (x := (0 : Int32)) (by decide)) (by decide) (by decide)) dX7_weeks_102 ?_
            exact hR _ _ _ _ dX7_weeks_103 ⟨hG1693, (iv_wk f1695 (by decide) (by decide) : iv (-2147483648) 2147483647 (ac_ga u1691 50 ((0 : Int32)).toNatClampNeg))⟩
        · have f1699 : iv 1000 2147483647 (ac_ga u1691 50 ((0 : Int32)).toNatClampNeg) := (iv_ler (iv_c (c := 1000) (x := (1000 : Int32)) (by decide)) (iv_any (ac_ga u1691 50 ((0 : Int32)).toNatClampNeg)) (Int32.not_lt.mp c1694))
          refine at_bipush C (-5 : Int32) dX7_weeks_89 (by decide) ?_
          exact hR _ _ _ _ dX7_weeks_91 ⟨hG1693, (iv_wk (iv_c (c := (-5)) (x := (-5 : Int32)) (by decide)) (by decide) (by decide) : iv (-2147483648) 2147483647 (-5 : Int32))⟩
      · have f1700 : iv 0 9 y4_25 := (iv_ltl b4_25 (show iv 0 10 (ac_gi σ 15) from hI.1 15) (Int32.not_le.mp c1690))
        have f1701 : iv 1 10 (ac_gi σ 15) := (iv_ltr b4_25 (show iv 0 10 (ac_gi σ 15) from hI.1 15) (Int32.not_le.mp c1690))
        refine at_iload_n C 3 dX7_weeks_34 rfl ?_
        refine at_aload_n C 0 dX7_weeks_35 rfl ?_
        refine gf_X7_75 C dX7_weeks_36 ?_
        refine at_iload C 4 dX7_weeks_39 rfl ?_
        refine at_iald C (c := 48) rfl (iv_in (n := 10) f1700 (by decide) (by decide)) dX7_weeks_41 ?_
        refine at_aload_n C 0 dX7_weeks_42 rfl ?_
        refine gf_X7_78 C dX7_weeks_43 ?_
        refine at_iload C 4 dX7_weeks_46 rfl ?_
        refine at_iald C (c := 49) rfl (iv_in (n := 10) f1700 (by decide) (by decide)) dX7_weeks_48 ?_
        refine at_icmp_eq C 56 dX7_weeks_49 (by decide) (fun c1702 => ?_) (fun c1702 => ?_)
        · refine at_iconst C (0 : Int32) dX7_weeks_56 (by decide) ?_
          refine at_Si C (As := [.int (0 : Int32)]) (st := [.int y3_25]) (ct_X7_one σ (0 : Int32) hI) mb_X7_one ml_X7_124 rfl (by decide) rfl (Nat.le_of_ble_eq_true rfl) dX7_weeks_57 ?_
          rintro _ _ (⟨c1703, rfl, rfl⟩ | ⟨c1705, rfl, rfl⟩)
          · show AT E 60 [(0, .ref (e_q E 30)), (1, .int x1), (2, .int x2), (3, .int y3_25), (4, .int y4_25)] [.int (0 : Int32), .int y3_25] σ
            refine at_iload C 4 dX7_weeks_60 rfl ?_
            refine at_ishl C dX7_weeks_62 ?_
            refine at_ior C dX7_weeks_63 ?_
            refine at_istore_n C (lv' := [(3, .int (y3_25 ||| ((0 : Int32) <<< (y4_25 &&& 31)))), (0, .ref (e_q E 30)), (1, .int x1), (2, .int x2), (4, .int y4_25)]) dX7_weeks_64 hn3 rfl ?_
            refine at_iinc C (v := (y4_25 + (1 : Int32))) (lv' := [(4, .int (y4_25 + (1 : Int32))), (3, .int (y3_25 ||| ((0 : Int32) <<< (y4_25 &&& 31)))), (0, .ref (e_q E 30)), (1, .int x1), (2, .int x2)]) 4 dX7_weeks_65 rfl rfl hn4 rfl ?_
            refine at_goto C 25 dX7_weeks_68 (by decide) ?_
            exact at_sub [2, 3, 4, 1, 0] rfl (ih25 (y3_25 ||| ((0 : Int32) <<< (y4_25 &&& 31))) (y4_25 + (1 : Int32)) (mz_up hm25 (ac_ti1 f1700 (iv_c (c := 1) (x := (1 : Int32)) (by decide)) (by decide) (by decide) (by decide)) (by decide) (iv_wk (iv_add f1700 (iv_c (c := 1) (x := (1 : Int32)) (by decide)) (by decide) (by decide)) (by decide) (by decide) : iv 0 10 (y4_25 + (1 : Int32))).2) (show iv 1 10 x1 from b1_25) (show iv (-1) 2147483647 x2 from b2_25) (show iv 0 1023 (y3_25 ||| ((0 : Int32) <<< (y4_25 &&& 31))) from (iv_or 10 b3_25 (iv_shl0 _) (by decide) (by decide) (by decide))) (iv_wk (iv_add f1700 (iv_c (c := 1) (x := (1 : Int32)) (by decide)) (by decide) (by decide)) (by decide) (by decide) : iv 0 10 (y4_25 + (1 : Int32))))
          · exact absurd (show (0 : Int32) = 0 from rfl) c1705
        · refine at_iconst C (1 : Int32) dX7_weeks_52 (by decide) ?_
          refine at_goto C 57 dX7_weeks_53 (by decide) ?_
          refine at_Si C (As := [.int (1 : Int32)]) (st := [.int y3_25]) (ct_X7_one σ (1 : Int32) hI) mb_X7_one ml_X7_124 rfl (by decide) rfl (Nat.le_of_ble_eq_true rfl) dX7_weeks_57 ?_
          rintro _ _ (⟨c1707, rfl, rfl⟩ | ⟨c1709, rfl, rfl⟩)
          · exact absurd c1707 (by decide)
          · show AT E 60 [(0, .ref (e_q E 30)), (1, .int x1), (2, .int x2), (3, .int y3_25), (4, .int y4_25)] [.int (1 : Int32), .int y3_25] σ
            refine at_iload C 4 dX7_weeks_60 rfl ?_
            refine at_ishl C dX7_weeks_62 ?_
            refine at_ior C dX7_weeks_63 ?_
            refine at_istore_n C (lv' := [(3, .int (y3_25 ||| ((1 : Int32) <<< (y4_25 &&& 31)))), (0, .ref (e_q E 30)), (1, .int x1), (2, .int x2), (4, .int y4_25)]) dX7_weeks_64 hn3 rfl ?_
            refine at_iinc C (v := (y4_25 + (1 : Int32))) (lv' := [(4, .int (y4_25 + (1 : Int32))), (3, .int (y3_25 ||| ((1 : Int32) <<< (y4_25 &&& 31)))), (0, .ref (e_q E 30)), (1, .int x1), (2, .int x2)]) 4 dX7_weeks_65 rfl rfl hn4 rfl ?_
            refine at_goto C 25 dX7_weeks_68 (by decide) ?_
            exact at_sub [2, 3, 4, 1, 0] rfl (ih25 (y3_25 ||| ((1 : Int32) <<< (y4_25 &&& 31))) (y4_25 + (1 : Int32)) (mz_up hm25 (ac_ti1 f1700 (iv_c (c := 1) (x := (1 : Int32)) (by decide)) (by decide) (by decide) (by decide)) (by decide) (iv_wk (iv_add f1700 (iv_c (c := 1) (x := (1 : Int32)) (by decide)) (by decide) (by decide)) (by decide) (by decide) : iv 0 10 (y4_25 + (1 : Int32))).2) (show iv 1 10 x1 from b1_25) (show iv (-1) 2147483647 x2 from b2_25) (show iv 0 1023 (y3_25 ||| ((1 : Int32) <<< (y4_25 &&& 31))) from (iv_or 10 b3_25 (iv_wk (c := 0) (iv_shl1 (a := 0) (b := 9) f1700 (by decide)) (by decide) (Int.le_refl _)) (by decide) (by decide) (by decide))) (iv_wk (iv_add f1700 (iv_c (c := 1) (x := (1 : Int32)) (by decide)) (by decide) (by decide)) (by decide) (by decide) : iv 0 10 (y4_25 + (1 : Int32))))
  refine at_iload_n C 1 dX7_weeks_0 rfl ?_
  refine at_i2l C dX7_weeks_1 ?_
  refine at_lconst C (1 : Int64) dX7_weeks_2 (by decide) ?_
  refine at_ldc2 C (10 : Int64) dX7_weeks_3 kc_X7_149 ?_
  refine at_Si C (As := [.long (x1).toInt64, .long (1 : Int64), .long (10 : Int64)]) (st := []) (ct_X7_in σ (x1).toInt64 (1 : Int64) (10 : Int64)) mb_X7_in ml_X7_90 rfl (by decide) rfl (Nat.le_of_ble_eq_true rfl) dX7_weeks_6 ?_
  rintro _ _ ⟨rfl, ⟨rfl, c1711⟩ | ⟨rfl, c1711⟩⟩
  · have f1713 : iv 1 10 x1 := (in_iv c1711 (by decide) (by decide))
    refine at_if_eq C 17 dX7_weeks_9 (by decide) (fun c1714 => absurd c1714 (iv_xeq (iv_c (c := 1) (x := (1 : Int32)) (by decide)) (iv_c (c := 0) (x := (0 : Int32)) (by decide)) (by decide))) (fun c1714 => ?_)
    refine at_iload_n C 2 dX7_weeks_12 rfl ?_
    refine at_iconst C (-1 : Int32) dX7_weeks_13 (by decide) ?_
    refine at_icmp_ge C 20 dX7_weeks_14 (by decide) (fun c1715 => ?_) (fun c1715 => ?_)
    · have f1716 : iv (-1) 2147483647 x2 := (iv_ler (iv_c (c := (-1)) (x := (-1 : Int32)) (by decide)) (iv_any x2) c1715)
      refine at_iconst C (0 : Int32) dX7_weeks_20 (by decide) ?_
      refine at_istore_n C (lv' := [(3, .int (0 : Int32)), (0, .ref (e_q E 30)), (1, .int x1), (2, .int x2)]) dX7_weeks_21 hn3 rfl ?_
      refine at_iconst C (0 : Int32) dX7_weeks_22 (by decide) ?_
      refine at_istore C (lv' := [(4, .int (0 : Int32)), (3, .int (0 : Int32)), (0, .ref (e_q E 30)), (1, .int x1), (2, .int x2)]) dX7_weeks_23 hn4 rfl ?_
      exact at_sub [2, 3, 4, 1, 0] rfl (K25 _ (0 : Int32) (0 : Int32) (Nat.lt_succ_self _) (show iv 1 10 x1 from f1713) (show iv (-1) 2147483647 x2 from f1716) (iv_wk (iv_c (c := 0) (x := (0 : Int32)) (by decide)) (by decide) (by decide) : iv 0 1023 (0 : Int32)) (iv_wk (iv_c (c := 0) (x := (0 : Int32)) (by decide)) (by decide) (by decide) : iv 0 10 (0 : Int32)))
    · have f1717 : iv (-2147483648) (-2) x2 := (iv_ltl (iv_any x2) (iv_c (c := (-1)) (x := (-1 : Int32)) (by decide)) (Int32.not_le.mp c1715))
      refine at_bipush C (-10 : Int32) dX7_weeks_17 (by decide) ?_
      exact hR _ _ _ _ dX7_weeks_19 ⟨hG0, (iv_wk (iv_c (c := (-10)) (x := (-10 : Int32)) (by decide)) (by decide) (by decide) : iv (-2147483648) 2147483647 (-10 : Int32))⟩
  · refine at_if_eq C 17 dX7_weeks_9 (by decide) (fun c1718 => ?_) (fun c1718 => absurd (iv_xne (iv_c (c := 0) (x := (0 : Int32)) (by decide)) (iv_c (c := 0) (x := (0 : Int32)) (by decide))) c1718)
    refine at_bipush C (-10 : Int32) dX7_weeks_17 (by decide) ?_
    exact hR _ _ _ _ dX7_weeks_19 ⟨hG0, (iv_wk (iv_c (c := (-10)) (x := (-10 : Int32)) (by decide)) (by decide) (by decide) : iv (-2147483648) 2147483647 (-10 : Int32))⟩
