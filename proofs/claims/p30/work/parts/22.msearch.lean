set_option maxHeartbeats 4000000 in
set_option maxRecDepth 100000 in
theorem ct_X7_layRow (σ : SS) (x1 : Int32) (hI : Inv σ) : ConV yX7_layRow cX7_layRow 3 none 0 (some 30) [.int x1] σ (fun σ' => Gd σ σ' ∧ ac_gi σ' 22 = ac_gi σ 22 ∧ ac_gi σ' 23 = ac_gi σ 23) := by
  refine conV_of (by decide) (fun q => Nat.le_of_ble_eq_true rfl) (fun E C en hR => ?_)
  have hn2 : 2 < e_n E := by rw [en]; decide
  have hG0 : Gd σ σ := Gd.rf hI
  have K7 : ∀ (n7 : Nat) (y2_7 : Int32) (s7 : SS), (10 - (y2_7).toInt).toNat < n7 → iv 0 10 y2_7 → Gd σ s7 → ac_gi s7 22 = ac_gi σ 22 → ac_gi s7 23 = ac_gi σ 23 → (((ac_gi s7 18)).toInt ≤ (y2_7).toInt) → AT E 7 [(0, .ref (e_q E 30)), (1, .int x1), (2, .int y2_7)] [] s7 := by
    intro n7
    induction n7 with
    | zero => intro y2_7 s7 hm; exact absurd hm (Nat.not_lt_zero _)
    | succ n7 ih7 =>
      intro y2_7 s7 hm7 b2_7 hG_7 fr22_7 fr23_7 e0_7
      refine at_iload_n C 2 dX7_layRow_7 rfl ?_
      refine at_aload_n C 0 dX7_layRow_8 rfl ?_
      refine gf_X7_87 C dX7_layRow_9 ?_
      refine at_icmp_ge C 50 dX7_layRow_12 (by decide) (fun c151 => ?_) (fun c151 => ?_)
      · exact hR _ _ _ dX7_layRow_50 ⟨hG_7, fr22_7, fr23_7⟩
      · have f152 : iv 0 9 y2_7 := (iv_ltl b2_7 (show iv 0 10 (ac_gi s7 15) from hG_7.1.1 15) (Int32.not_le.mp c151))
        have f153 : iv 1 10 (ac_gi s7 15) := (iv_ltr b2_7 (show iv 0 10 (ac_gi s7 15) from hG_7.1.1 15) (Int32.not_le.mp c151))
        refine at_iload_n C 1 dX7_layRow_15 rfl ?_
        refine at_iload_n C 2 dX7_layRow_16 rfl ?_
        refine at_ishr C dX7_layRow_17 ?_
        refine at_iconst C (1 : Int32) dX7_layRow_18 (by decide) ?_
        refine at_iand C dX7_layRow_19 ?_
        refine at_iconst C (1 : Int32) dX7_layRow_20 (by decide) ?_
        refine at_icmp_ne C 44 dX7_layRow_21 (by decide) (fun c154 => ?_) (fun c154 => ?_)
        · have f155 : iv 0 0 ((x1 >>> (y2_7 &&& 31)) &&& (1 : Int32)) := (iv_neh (iv_andr (iv_wk (c := 0) (iv_c (c := 1) (x := (1 : Int32)) (by decide)) (by decide) (Int.le_refl _))) (by decide) c154)
          refine at_iinc C (v := (y2_7 + (1 : Int32))) (lv' := [(2, .int (y2_7 + (1 : Int32))), (0, .ref (e_q E 30)), (1, .int x1)]) 2 dX7_layRow_44 rfl rfl hn2 rfl ?_
          refine at_goto C 7 dX7_layRow_47 (by decide) ?_
          exact at_sub [1, 2, 0] rfl (ih7 (y2_7 + (1 : Int32)) s7 (mz_up hm7 (ac_ti1 f152 (iv_c (c := 1) (x := (1 : Int32)) (by decide)) (by decide) (by decide) (by decide)) (by decide) (iv_wk (iv_add f152 (iv_c (c := 1) (x := (1 : Int32)) (by decide)) (by decide) (by decide)) (by decide) (by decide) : iv 0 10 (y2_7 + (1 : Int32))).2) (iv_wk (iv_add f152 (iv_c (c := 1) (x := (1 : Int32)) (by decide)) (by decide) (by decide)) (by decide) (by decide) : iv 0 10 (y2_7 + (1 : Int32))) hG_7 fr22_7 fr23_7 (show ((ac_gi s7 18)).toInt ≤ ((y2_7 + (1 : Int32))).toInt from by have q0 := e0_7; have q2 := ac_ti1 f152 (iv_c (c := 1) (x := (1 : Int32)) (by decide)) (by decide) (by decide) (by decide); omega))
        · have f156 : iv 1 1 ((x1 >>> (y2_7 &&& 31)) &&& (1 : Int32)) := (iv_eql (iv_c (c := 1) (x := (1 : Int32)) (by decide)) c154)
          have f157 : iv 0 9 (ac_gi s7 18) := ⟨(show iv 0 10 (ac_gi s7 18) from (show iv 0 10 (ac_gi s7 18) from hG_7.1.1 18)).1, by have q0 := e0_7; have q1 := (show iv 0 9 y2_7 from f152).2; omega⟩
          refine at_aload_n C 0 dX7_layRow_24 rfl ?_
          refine gf_X7_23 C dX7_layRow_25 ?_
          refine at_aload_n C 0 dX7_layRow_28 rfl ?_
          refine gf_X7_106 C dX7_layRow_29 ?_
          refine at_iload_n C 2 dX7_layRow_32 rfl ?_
          refine at_iast C (c := 33) rfl (fun f => ac_ast_33 _ _ _ _ f) (iv_in (n := 10) f157 (by decide) (by decide)) dX7_layRow_33 ?_
          have hG158 := Gd.sa (c := 33) (i := ((ac_gi s7 18)).toNatClampNeg) hG_7 rfl (show iv 0 9 y2_7 from f152)
          refine at_aload_n C 0 dX7_layRow_34 rfl ?_
          refine at_dup C dX7_layRow_35 rfl ?_
          refine gf_X7_106 C dX7_layRow_36 ?_
          show AT E 39 [(0, .ref (e_q E 30)), (1, .int x1), (2, .int y2_7)] [.int (ac_gi s7 18), .ref (e_q E 30)] (ac_sa s7 33 (upd (ac_ga s7 33) ((ac_gi s7 18)).toNatClampNeg y2_7))
          refine at_iconst C (1 : Int32) dX7_layRow_39 (by decide) ?_
          refine at_iadd C dX7_layRow_40 ?_
          refine pf_X7_106 C dX7_layRow_41 ?_
          have hG159 := Gd.si (k := 18) hG158 rfl (iv_wk (iv_add f157 (iv_c (c := 1) (x := (1 : Int32)) (by decide)) (by decide) (by decide)) (by decide) (by decide) : iv 0 10 ((ac_gi s7 18) + (1 : Int32)))
          refine at_iinc C (v := (y2_7 + (1 : Int32))) (lv' := [(2, .int (y2_7 + (1 : Int32))), (0, .ref (e_q E 30)), (1, .int x1)]) 2 dX7_layRow_44 rfl rfl hn2 rfl ?_
          refine at_goto C 7 dX7_layRow_47 (by decide) ?_
          exact at_sub [1, 2, 0] rfl (ih7 (y2_7 + (1 : Int32)) (ac_si (ac_sa s7 33 (upd (ac_ga s7 33) ((ac_gi s7 18)).toNatClampNeg y2_7)) 18 ((ac_gi s7 18) + (1 : Int32))) (mz_up hm7 (ac_ti1 f152 (iv_c (c := 1) (x := (1 : Int32)) (by decide)) (by decide) (by decide) (by decide)) (by decide) (iv_wk (iv_add f152 (iv_c (c := 1) (x := (1 : Int32)) (by decide)) (by decide) (by decide)) (by decide) (by decide) : iv 0 10 (y2_7 + (1 : Int32))).2) (iv_wk (iv_add f152 (iv_c (c := 1) (x := (1 : Int32)) (by decide)) (by decide) (by decide)) (by decide) (by decide) : iv 0 10 (y2_7 + (1 : Int32))) hG159 fr22_7 fr23_7 (show (((ac_gi s7 18) + (1 : Int32))).toInt ≤ ((y2_7 + (1 : Int32))).toInt from by have q0 := e0_7; have q1 := ac_ti1 f157 (iv_c (c := 1) (x := (1 : Int32)) (by decide)) (by decide) (by decide) (by decide); have q2 := ac_ti1 f152 (iv_c (c := 1) (x := (1 : Int32)) (by decide)) (by decide) (by decide) (by decide); omega))
  refine at_aload_n C 0 dX7_layRow_0 rfl ?_
  refine at_iconst C (0 : Int32) dX7_layRow_1 (by decide) ?_
  refine pf_X7_106 C dX7_layRow_2 ?_
  have hG160 := Gd.si (k := 18) hG0 rfl (iv_wk (iv_c (c := 0) (x := (0 : Int32)) (by decide)) (by decide) (by decide) : iv 0 10 (0 : Int32))
  refine at_iconst C (0 : Int32) dX7_layRow_5 (by decide) ?_
  refine at_istore_n C (lv' := [(2, .int (0 : Int32)), (0, .ref (e_q E 30)), (1, .int x1)]) dX7_layRow_6 hn2 rfl ?_
  exact at_sub [1, 2, 0] rfl (K7 _ (0 : Int32) (ac_si σ 18 (0 : Int32)) (Nat.lt_succ_self _) (iv_wk (iv_c (c := 0) (x := (0 : Int32)) (by decide)) (by decide) (by decide) : iv 0 10 (0 : Int32)) hG160 rfl rfl (show ((0 : Int32)).toInt ≤ ((0 : Int32)).toInt from by decide))
set_option maxHeartbeats 4000000 in
set_option maxRecDepth 100000 in
theorem ct_X7_mayHave (σ : SS) (x1 : Int32) (x2 : Int32) (hI : Inv σ) (g1 : iv 0 9 x1) : ConI yX7_mayHave cX7_mayHave 5 (some .boolean) 1 (some 30) [.int x1, .int x2] σ (fun r σ' => σ = σ' ∧ (r = 0 ∨ r = 1)) := by
  refine conZ_of (by decide) (fun q => Nat.le_of_ble_eq_true rfl) (fun r u h => h.2) (fun E C en hR => ?_)
  have hn3 : 3 < e_n E := by rw [en]; decide
  have hn4 : 4 < e_n E := by rw [en]; decide
  have K27 : ∀ (n27 : Nat) (y3_27 : Int32) (y4_27 : Int32), (9 - (y4_27).toInt).toNat < n27 → iv 0 1 y3_27 → iv 0 9 y4_27 → AT E 27 [(0, .ref (e_q E 30)), (1, .int x1), (2, .int x2), (3, .int y3_27), (4, .int y4_27)] [] σ := by
    intro n27
    induction n27 with
    | zero => intro y3_27 y4_27 hm; exact absurd hm (Nat.not_lt_zero _)
    | succ n27 ih27 =>
      intro y3_27 y4_27 hm27 b3_27 b4_27
      refine at_iload C 4 dX7_mayHave_27 rfl ?_
      refine at_iload_n C 1 dX7_mayHave_29 rfl ?_
      refine at_icmp_ge C 77 dX7_mayHave_30 (by decide) (fun c197 => ?_) (fun c197 => ?_)
      · refine at_iload_n C 3 dX7_mayHave_77 rfl ?_
        exact hR _ _ _ _ dX7_mayHave_78 ⟨rfl, iv01 (show iv 0 1 y3_27 from b3_27)⟩
      · have f198 : iv 0 8 y4_27 := (iv_ltl b4_27 g1 (Int32.not_le.mp c197))
        have f199 : iv 1 9 x1 := (iv_ltr b4_27 g1 (Int32.not_le.mp c197))
        refine at_iload_n C 3 dX7_mayHave_33 rfl ?_
        refine at_if_eq C 77 dX7_mayHave_34 (by decide) (fun c200 => ?_) (fun c200 => ?_)
        · have f201 : iv 0 0 y3_27 := (iv_eql (iv_c (c := 0) (x := (0 : Int32)) (by decide)) c200)
          refine at_iload_n C 3 dX7_mayHave_77 rfl ?_
          exact hR _ _ _ _ dX7_mayHave_78 ⟨rfl, iv01 (iv_wk f201 (by decide) (by decide) : iv 0 1 y3_27)⟩
        · have f202 : iv 1 1 y3_27 := (iv_nel b3_27 (by decide) c200)
          refine at_aload_n C 0 dX7_mayHave_37 rfl ?_
          refine at_aload_n C 0 dX7_mayHave_38 rfl ?_
          refine gf_X7_23 C dX7_mayHave_39 ?_
          refine at_iload_n C 1 dX7_mayHave_42 rfl ?_
          refine at_iald C (c := 33) rfl (iv_in (n := 10) f199 (by decide) (by decide)) dX7_mayHave_43 ?_
          refine at_aload_n C 0 dX7_mayHave_44 rfl ?_
          refine gf_X7_23 C dX7_mayHave_45 ?_
          refine at_iload C 4 dX7_mayHave_48 rfl ?_
          refine at_iald C (c := 33) rfl (iv_in (n := 10) f198 (by decide) (by decide)) dX7_mayHave_50 ?_
          refine at_iload_n C 2 dX7_mayHave_51 rfl ?_
          refine at_aload_n C 0 dX7_mayHave_52 rfl ?_
          refine gf_X7_26 C dX7_mayHave_53 ?_
          refine at_iload C 4 dX7_mayHave_56 rfl ?_
          refine at_iald C (c := 34) rfl (iv_in (n := 10) f198 (by decide) (by decide)) dX7_mayHave_58 ?_
          refine at_Vi C (As := [.int (ac_ga σ 33 (x1).toNatClampNeg), .int (ac_ga σ 33 (y4_27).toNatClampNeg), .int x2, .int (ac_ga σ 34 (y4_27).toNatClampNeg)]) (st := []) (b := 30) (ci := 7) (ct_X7_breaks σ (ac_ga σ 33 (x1).toNatClampNeg) (ac_ga σ 33 (y4_27).toNatClampNeg) x2 (ac_ga σ 34 (y4_27).toNatClampNeg) hI (show iv 0 9 (ac_ga σ 33 (x1).toNatClampNeg) from (show iv 0 9 (ac_ga σ 33 (x1).toNatClampNeg) from hI.2 33 _)) (show iv 0 9 (ac_ga σ 33 (y4_27).toNatClampNeg) from (show iv 0 9 (ac_ga σ 33 (y4_27).toNatClampNeg) from hI.2 33 _))) mb_X7_breaks ml_X7_109 rfl rfl rfl (by decide) rfl (Nat.le_of_ble_eq_true rfl) dX7_mayHave_59 ?_
          rintro _ _ ⟨rfl, rfl | rfl⟩
          · refine at_if_ne C 69 dX7_mayHave_62 (by decide) (fun c206 => absurd (iv_xne (iv_c (c := 0) (x := (0 : Int32)) (by decide)) (iv_c (c := 0) (x := (0 : Int32)) (by decide))) c206) (fun c206 => ?_)
            refine at_iconst C (1 : Int32) dX7_mayHave_65 (by decide) ?_
            refine at_goto C 70 dX7_mayHave_66 (by decide) ?_
            refine at_istore_n C (lv' := [(3, .int (1 : Int32)), (0, .ref (e_q E 30)), (1, .int x1), (2, .int x2), (4, .int y4_27)]) dX7_mayHave_70 hn3 rfl ?_
            refine at_iinc C (v := (y4_27 + (1 : Int32))) (lv' := [(4, .int (y4_27 + (1 : Int32))), (3, .int (1 : Int32)), (0, .ref (e_q E 30)), (1, .int x1), (2, .int x2)]) 4 dX7_mayHave_71 rfl rfl hn4 rfl ?_
            refine at_goto C 27 dX7_mayHave_74 (by decide) ?_
            exact at_sub [2, 3, 4, 1, 0] rfl (ih27 (1 : Int32) (y4_27 + (1 : Int32)) (mz_up hm27 (ac_ti1 f198 (iv_c (c := 1) (x := (1 : Int32)) (by decide)) (by decide) (by decide) (by decide)) (by decide) (iv_wk (iv_add f198 (iv_c (c := 1) (x := (1 : Int32)) (by decide)) (by decide) (by decide)) (by decide) (by decide) : iv 0 9 (y4_27 + (1 : Int32))).2) (iv_wk (iv_c (c := 1) (x := (1 : Int32)) (by decide)) (by decide) (by decide) : iv 0 1 (1 : Int32)) (iv_wk (iv_add f198 (iv_c (c := 1) (x := (1 : Int32)) (by decide)) (by decide) (by decide)) (by decide) (by decide) : iv 0 9 (y4_27 + (1 : Int32))))
          · refine at_if_ne C 69 dX7_mayHave_62 (by decide) (fun c207 => ?_) (fun c207 => absurd c207 (iv_xeq (iv_c (c := 1) (x := (1 : Int32)) (by decide)) (iv_c (c := 0) (x := (0 : Int32)) (by decide)) (by decide)))
            refine at_iconst C (0 : Int32) dX7_mayHave_69 (by decide) ?_
            refine at_istore_n C (lv' := [(3, .int (0 : Int32)), (0, .ref (e_q E 30)), (1, .int x1), (2, .int x2), (4, .int y4_27)]) dX7_mayHave_70 hn3 rfl ?_
            refine at_iinc C (v := (y4_27 + (1 : Int32))) (lv' := [(4, .int (y4_27 + (1 : Int32))), (3, .int (0 : Int32)), (0, .ref (e_q E 30)), (1, .int x1), (2, .int x2)]) 4 dX7_mayHave_71 rfl rfl hn4 rfl ?_
            refine at_goto C 27 dX7_mayHave_74 (by decide) ?_
            exact at_sub [2, 3, 4, 1, 0] rfl (ih27 (0 : Int32) (y4_27 + (1 : Int32)) (mz_up hm27 (ac_ti1 f198 (iv_c (c := 1) (x := (1 : Int32)) (by decide)) (by decide) (by decide) (by decide)) (by decide) (iv_wk (iv_add f198 (iv_c (c := 1) (x := (1 : Int32)) (by decide)) (by decide) (by decide)) (by decide) (by decide) : iv 0 9 (y4_27 + (1 : Int32))).2) (iv_wk (iv_c (c := 0) (x := (0 : Int32)) (by decide)) (by decide) (by decide) : iv 0 1 (0 : Int32)) (iv_wk (iv_add f198 (iv_c (c := 1) (x := (1 : Int32)) (by decide)) (by decide) (by decide)) (by decide) (by decide) : iv 0 9 (y4_27 + (1 : Int32))))
  refine at_aload_n C 0 dX7_mayHave_0 rfl ?_
  refine gf_X7_20 C dX7_mayHave_1 ?_
  refine at_aload_n C 0 dX7_mayHave_4 rfl ?_
  refine gf_X7_23 C dX7_mayHave_5 ?_
  refine at_iload_n C 1 dX7_mayHave_8 rfl ?_
  refine at_iald C (c := 33) rfl (iv_in (n := 10) g1 (by decide) (by decide)) dX7_mayHave_9 ?_
  refine at_iald C (c := 32) rfl (iv_in (n := 10) (show iv 0 9 (ac_ga σ 33 (x1).toNatClampNeg) from hI.2 33 _) (by decide) (by decide)) dX7_mayHave_10 ?_
  refine at_iload_n C 2 dX7_mayHave_11 rfl ?_
  refine at_ishr C dX7_mayHave_12 ?_
  refine at_iconst C (1 : Int32) dX7_mayHave_13 (by decide) ?_
  refine at_iand C dX7_mayHave_14 ?_
  refine at_if_ne C 22 dX7_mayHave_15 (by decide) (fun c208 => ?_) (fun c208 => ?_)
  · have f209 : iv 1 1 (((ac_ga σ 32 ((ac_ga σ 33 (x1).toNatClampNeg)).toNatClampNeg) >>> (x2 &&& 31)) &&& (1 : Int32)) := (iv_nel (iv_andr (iv_wk (c := 0) (iv_c (c := 1) (x := (1 : Int32)) (by decide)) (by decide) (Int.le_refl _))) (by decide) c208)
    refine at_iconst C (0 : Int32) dX7_mayHave_22 (by decide) ?_
    refine at_istore_n C (lv' := [(3, .int (0 : Int32)), (0, .ref (e_q E 30)), (1, .int x1), (2, .int x2)]) dX7_mayHave_23 hn3 rfl ?_
    refine at_iconst C (0 : Int32) dX7_mayHave_24 (by decide) ?_
    refine at_istore C (lv' := [(4, .int (0 : Int32)), (3, .int (0 : Int32)), (0, .ref (e_q E 30)), (1, .int x1), (2, .int x2)]) dX7_mayHave_25 hn4 rfl ?_
    exact at_sub [2, 3, 4, 1, 0] rfl (K27 _ (0 : Int32) (0 : Int32) (Nat.lt_succ_self _) (iv_wk (iv_c (c := 0) (x := (0 : Int32)) (by decide)) (by decide) (by decide) : iv 0 1 (0 : Int32)) (iv_wk (iv_c (c := 0) (x := (0 : Int32)) (by decide)) (by decide) (by decide) : iv 0 9 (0 : Int32)))
  · have f210 : iv 0 0 (((ac_ga σ 32 ((ac_ga σ 33 (x1).toNatClampNeg)).toNatClampNeg) >>> (x2 &&& 31)) &&& (1 : Int32)) := (iv_eql (iv_c (c := 0) (x := (0 : Int32)) (by decide)) c208)
    refine at_iconst C (1 : Int32) dX7_mayHave_18 (by decide) ?_
    refine at_goto C 23 dX7_mayHave_19 (by decide) ?_
    refine at_istore_n C (lv' := [(3, .int (1 : Int32)), (0, .ref (e_q E 30)), (1, .int x1), (2, .int x2)]) dX7_mayHave_23 hn3 rfl ?_
    refine at_iconst C (0 : Int32) dX7_mayHave_24 (by decide) ?_
    refine at_istore C (lv' := [(4, .int (0 : Int32)), (3, .int (1 : Int32)), (0, .ref (e_q E 30)), (1, .int x1), (2, .int x2)]) dX7_mayHave_25 hn4 rfl ?_
    exact at_sub [2, 3, 4, 1, 0] rfl (K27 _ (1 : Int32) (0 : Int32) (Nat.lt_succ_self _) (iv_wk (iv_c (c := 1) (x := (1 : Int32)) (by decide)) (by decide) (by decide) : iv 0 1 (1 : Int32)) (iv_wk (iv_c (c := 0) (x := (0 : Int32)) (by decide)) (by decide) (by decide) : iv 0 9 (0 : Int32)))
set_option maxHeartbeats 4000000 in
set_option maxRecDepth 100000 in
theorem ct_X7_search (σ : SS) (x1 : Int32) (hI : Inv σ) : ConI yX7_search cX7_search 3 (some .int) 2 (some 30) [.int x1] σ (fun r σ' => Gd σ σ' ∧ iv (-5) 1 r ∧ ac_gi σ' 22 = ac_gi σ 22 ∧ ac_gi σ' 23 = ac_gi σ 23) := by
  refine conI_of (by decide) (fun q => Nat.le_of_ble_eq_true rfl) (fun E C en hR => ?_)
  have hn2 : 2 < e_n E := by rw [en]; decide
  have hG0 : Gd σ σ := Gd.rf hI
  have K26 : ∀ (n26 : Nat) (y2_26 : Int32) (s26 : SS), (2 * ((ac_gi s26 17).toInt - (ac_gi s26 19).toInt) + (y2_26).toInt + 1).toNat < n26 → iv (-1) 10 y2_26 → Gd σ s26 → ac_gi s26 22 = ac_gi σ 22 → ac_gi s26 23 = ac_gi σ 23 → (0 ≤ ((ac_gi s26 19)).toInt ∧ ((ac_gi s26 19)).toInt ≤ ((ac_gi s26 17)).toInt) → AT E 26 [(0, .ref (e_q E 30)), (2, .int y2_26)] [] s26 := by
    intro n26
    induction n26 with
    | zero => intro y2_26 s26 hm; exact absurd hm (Nat.not_lt_zero _)
    | succ n26 ih26 =>
      intro y2_26 s26 hm26 b2_26 hG_26 fr22_26 fr23_26 e0_26
      refine at_iload_n C 1 dX7_search_26 rfl ?_
      refine at_if_lt C 126 dX7_search_27 (by decide) (fun c680 => ?_) (fun c680 => ?_)
      · have f681 : iv (-1) (-1) y2_26 := (iv_ltl b2_26 (iv_c (c := 0) (x := (0 : Int32)) (by decide)) c680)
        refine at_iload_n C 1 dX7_search_126 rfl ?_
        refine at_aload_n C 0 dX7_search_127 rfl ?_
        refine gf_X7_106 C dX7_search_128 ?_
        refine at_icmp_ne C 138 dX7_search_131 (by decide) (fun c682 => ?_) (fun c682 => absurd c682 (iv_xeq f681 (show iv 0 10 (ac_gi s26 18) from hG_26.1.1 18) (by decide)))
        refine at_iconst C (0 : Int32) dX7_search_138 (by decide) ?_
        refine at_Si C (As := [.int (0 : Int32)]) (st := []) (ct_X7_one s26 (0 : Int32) hG_26.1) mb_X7_one ml_X7_124 rfl (by decide) rfl (Nat.le_of_ble_eq_true rfl) dX7_search_139 ?_
        rintro _ _ (⟨c683, rfl, rfl⟩ | ⟨c685, rfl, rfl⟩)
        · show AT E 142 [(0, .ref (e_q E 30)), (2, .int y2_26)] [.int (0 : Int32)] s26
          exact hR _ _ _ _ dX7_search_142 ⟨hG_26, (iv_wk (iv_c (c := 0) (x := (0 : Int32)) (by decide)) (by decide) (by decide) : iv (-5) 1 (0 : Int32)), fr22_26, fr23_26⟩
        · exact absurd (show (0 : Int32) = 0 from rfl) c685
      · have f687 : iv 0 10 y2_26 := (iv_ler (iv_c (c := 0) (x := (0 : Int32)) (by decide)) b2_26 (Int32.not_lt.mp c680))
        refine at_iload_n C 1 dX7_search_30 rfl ?_
        refine at_aload_n C 0 dX7_search_31 rfl ?_
        refine gf_X7_106 C dX7_search_32 ?_
        refine at_icmp_ge C 126 dX7_search_35 (by decide) (fun c688 => ?_) (fun c688 => ?_)
        · refine at_iload_n C 1 dX7_search_126 rfl ?_
          refine at_aload_n C 0 dX7_search_127 rfl ?_
          refine gf_X7_106 C dX7_search_128 ?_
          refine at_icmp_ne C 138 dX7_search_131 (by decide) (fun c689 => ?_) (fun c689 => ?_)
          · refine at_iconst C (0 : Int32) dX7_search_138 (by decide) ?_
            refine at_Si C (As := [.int (0 : Int32)]) (st := []) (ct_X7_one s26 (0 : Int32) hG_26.1) mb_X7_one ml_X7_124 rfl (by decide) rfl (Nat.le_of_ble_eq_true rfl) dX7_search_139 ?_
            rintro _ _ (⟨c690, rfl, rfl⟩ | ⟨c692, rfl, rfl⟩)
            · show AT E 142 [(0, .ref (e_q E 30)), (2, .int y2_26)] [.int (0 : Int32)] s26
              exact hR _ _ _ _ dX7_search_142 ⟨hG_26, (iv_wk (iv_c (c := 0) (x := (0 : Int32)) (by decide)) (by decide) (by decide) : iv (-5) 1 (0 : Int32)), fr22_26, fr23_26⟩
            · exact absurd (show (0 : Int32) = 0 from rfl) c692
          · refine at_iconst C (1 : Int32) dX7_search_134 (by decide) ?_
            refine at_goto C 139 dX7_search_135 (by decide) ?_
            refine at_Si C (As := [.int (1 : Int32)]) (st := []) (ct_X7_one s26 (1 : Int32) hG_26.1) mb_X7_one ml_X7_124 rfl (by decide) rfl (Nat.le_of_ble_eq_true rfl) dX7_search_139 ?_
            rintro _ _ (⟨c694, rfl, rfl⟩ | ⟨c696, rfl, rfl⟩)
            · exact absurd c694 (by decide)
            · show AT E 142 [(0, .ref (e_q E 30)), (2, .int y2_26)] [.int (1 : Int32)] s26
              exact hR _ _ _ _ dX7_search_142 ⟨hG_26, (iv_wk (iv_c (c := 1) (x := (1 : Int32)) (by decide)) (by decide) (by decide) : iv (-5) 1 (1 : Int32)), fr22_26, fr23_26⟩
        · have f698 : iv 0 9 y2_26 := (iv_ltl f687 (show iv 0 10 (ac_gi s26 18) from hG_26.1.1 18) (Int32.not_le.mp c688))
          have f699 : iv 1 10 (ac_gi s26 18) := (iv_ltr f687 (show iv 0 10 (ac_gi s26 18) from hG_26.1.1 18) (Int32.not_le.mp c688))
          refine at_aload_n C 0 dX7_search_38 rfl ?_
          refine gf_X7_26 C dX7_search_39 ?_
          refine at_iload_n C 1 dX7_search_42 rfl ?_
          refine at_dup2 C dX7_search_43 rfl rfl ?_
          refine at_iald C (c := 34) rfl (iv_in (n := 10) f698 (by decide) (by decide)) dX7_search_44 ?_
          refine at_iconst C (1 : Int32) dX7_search_45 (by decide) ?_
          refine at_iadd C dX7_search_46 ?_
          refine at_iast C (c := 34) rfl (fun f => ac_ast_34 _ _ _ _ f) (iv_in (n := 10) f698 (by decide) (by decide)) dX7_search_47 ?_
          have hG700 := Gd.sa (c := 34) (i := (y2_26).toNatClampNeg) hG_26 rfl (show iv (-2147483648) 2147483647 ((ac_ga s26 34 (y2_26).toNatClampNeg) + (1 : Int32)) from (iv_any ((ac_ga s26 34 (y2_26).toNatClampNeg) + (1 : Int32))))
          refine at_aload_n C 0 dX7_search_48 rfl ?_
          refine gf_X7_26 C dX7_search_49 ?_
          refine at_iload_n C 1 dX7_search_52 rfl ?_
          refine at_iald C (c := 34) rfl (iv_in (n := 10) f698 (by decide) (by decide)) dX7_search_53 ?_
          refine at_aload_n C 0 dX7_search_54 rfl ?_
          refine gf_X7_7 C dX7_search_55 ?_
          show AT E 58 [(0, .ref (e_q E 30)), (2, .int y2_26)] [.int (ac_gi s26 16), .int (ac_ga (ac_sa s26 34 (upd (ac_ga s26 34) (y2_26).toNatClampNeg ((ac_ga s26 34 (y2_26).toNatClampNeg) + (1 : Int32)))) 34 (y2_26).toNatClampNeg)] (ac_sa s26 34 (upd (ac_ga s26 34) (y2_26).toNatClampNeg ((ac_ga s26 34 (y2_26).toNatClampNeg) + (1 : Int32))))
          refine at_icmp_ne C 67 dX7_search_58 (by decide) (fun c701 => ?_) (fun c701 => ?_)
          · refine at_aload_n C 0 dX7_search_67 rfl ?_
            refine gf_X7_117 C dX7_search_68 ?_
            show AT E 71 [(0, .ref (e_q E 30)), (2, .int y2_26)] [.int (ac_gi s26 19)] (ac_sa s26 34 (upd (ac_ga s26 34) (y2_26).toNatClampNeg ((ac_ga s26 34 (y2_26).toNatClampNeg) + (1 : Int32))))
            refine at_aload_n C 0 dX7_search_71 rfl ?_
            refine gf_X7_13 C dX7_search_72 ?_
            show AT E 75 [(0, .ref (e_q E 30)), (2, .int y2_26)] [.int (ac_gi s26 17), .int (ac_gi s26 19)] (ac_sa s26 34 (upd (ac_ga s26 34) (y2_26).toNatClampNeg ((ac_ga s26 34 (y2_26).toNatClampNeg) + (1 : Int32))))
            refine at_icmp_ne C 81 dX7_search_75 (by decide) (fun c702 => ?_) (fun c702 => ?_)
            · have f703 : iv 0 1999 (ac_gi s26 19) := ⟨e0_26.1, by have q0 := e0_26; have q1 := (show iv 1 2000 (ac_gi s26 17) from (show iv 1 2000 (ac_gi s26 17) from hG_26.1.1 17)).2; have q2 := iv_ne c702; omega⟩
              refine at_aload_n C 0 dX7_search_81 rfl ?_
              refine at_dup C dX7_search_82 rfl ?_
              refine gf_X7_117 C dX7_search_83 ?_
              show AT E 86 [(0, .ref (e_q E 30)), (2, .int y2_26)] [.int (ac_gi s26 19), .ref (e_q E 30)] (ac_sa s26 34 (upd (ac_ga s26 34) (y2_26).toNatClampNeg ((ac_ga s26 34 (y2_26).toNatClampNeg) + (1 : Int32))))
              refine at_iconst C (1 : Int32) dX7_search_86 (by decide) ?_
              refine at_iadd C dX7_search_87 ?_
              refine pf_X7_117 C dX7_search_88 ?_
              have hG704 := Gd.si (k := 19) hG700 rfl (iv_wk (iv_add f703 (iv_c (c := 1) (x := (1 : Int32)) (by decide)) (by decide) (by decide)) (by decide) (by decide) : iv (-2147483648) 2147483647 ((ac_gi s26 19) + (1 : Int32)))
              refine at_aload_n C 0 dX7_search_91 rfl ?_
              refine at_iload_n C 1 dX7_search_92 rfl ?_
              refine at_aload_n C 0 dX7_search_93 rfl ?_
              refine gf_X7_26 C dX7_search_94 ?_
              refine at_iload_n C 1 dX7_search_97 rfl ?_
              refine at_iald C (c := 34) rfl (iv_in (n := 10) f698 (by decide) (by decide)) dX7_search_98 ?_
              refine at_Vi C (As := [.int y2_26, .int (ac_ga (ac_si (ac_sa s26 34 (upd (ac_ga s26 34) (y2_26).toNatClampNeg ((ac_ga s26 34 (y2_26).toNatClampNeg) + (1 : Int32)))) 19 ((ac_gi s26 19) + (1 : Int32))) 34 (y2_26).toNatClampNeg)]) (st := []) (b := 30) (ci := 7) (ct_X7_mayHave (ac_si (ac_sa s26 34 (upd (ac_ga s26 34) (y2_26).toNatClampNeg ((ac_ga s26 34 (y2_26).toNatClampNeg) + (1 : Int32)))) 19 ((ac_gi s26 19) + (1 : Int32))) y2_26 (ac_ga (ac_si (ac_sa s26 34 (upd (ac_ga s26 34) (y2_26).toNatClampNeg ((ac_ga s26 34 (y2_26).toNatClampNeg) + (1 : Int32)))) 19 ((ac_gi s26 19) + (1 : Int32))) 34 (y2_26).toNatClampNeg) hG704.1 (show iv 0 9 y2_26 from f698)) mb_X7_mayHave ml_X7_120 rfl rfl rfl (by decide) rfl (Nat.le_of_ble_eq_true rfl) dX7_search_99 ?_
              rintro _ _ ⟨rfl, rfl | rfl⟩
              · refine at_if_eq C 26 dX7_search_102 (by decide) (fun c708 => ?_) (fun c708 => absurd (iv_xne (iv_c (c := 0) (x := (0 : Int32)) (by decide)) (iv_c (c := 0) (x := (0 : Int32)) (by decide))) c708)
                exact at_sub [0, 1] rfl (ih26 y2_26 (ac_si (ac_sa s26 34 (upd (ac_ga s26 34) (y2_26).toNatClampNeg ((ac_ga s26 34 (y2_26).toNatClampNeg) + (1 : Int32)))) 19 ((ac_gi s26 19) + (1 : Int32))) (show (2 * (((ac_gi s26 17)).toInt - (((ac_gi s26 19) + (1 : Int32))).toInt) + (y2_26).toInt + 1).toNat < n26 from by have q9 := hm26; have q0 := e0_26; have q2 := ti_add f703 (iv_c (c := 1) (x := (1 : Int32)) (by decide)) (by decide) (by decide); have q3 := (show iv 0 9 y2_26 from f698); have q4 := q3.1; have q5 := (show iv 1 2000 (ac_gi s26 17) from (show iv 1 2000 (ac_gi s26 17) from hG_26.1.1 17)).2; have q6 : (1 : Int32).toInt = 1 := (by decide); have q7 : (-1 : Int32).toInt = -1 := (by decide); have q8 := iv_ne c702; omega) (iv_wk f698 (by decide) (by decide) : iv (-1) 10 y2_26) hG704 fr22_26 fr23_26 (show 0 ≤ (((ac_gi s26 19) + (1 : Int32))).toInt ∧ (((ac_gi s26 19) + (1 : Int32))).toInt ≤ ((ac_gi s26 17)).toInt from by have q0 := e0_26; have q2 := ti_add f703 (iv_c (c := 1) (x := (1 : Int32)) (by decide)) (by decide) (by decide); have q3 := (show iv 0 9 y2_26 from f698); have q4 := q3.1; have q5 := (show iv 1 2000 (ac_gi s26 17) from (show iv 1 2000 (ac_gi s26 17) from hG_26.1.1 17)).2; have q6 : (1 : Int32).toInt = 1 := (by decide); have q7 : (-1 : Int32).toInt = -1 := (by decide); have q8 := iv_ne c702; omega))
              · refine at_if_eq C 26 dX7_search_102 (by decide) (fun c709 => absurd c709 (iv_xeq (iv_c (c := 1) (x := (1 : Int32)) (by decide)) (iv_c (c := 0) (x := (0 : Int32)) (by decide)) (by decide))) (fun c709 => ?_)
                refine at_iinc C (v := (y2_26 + (1 : Int32))) (lv' := [(2, .int (y2_26 + (1 : Int32))), (0, .ref (e_q E 30))]) 1 dX7_search_105 rfl rfl hn2 rfl ?_
                refine at_iload_n C 0 dX7_search_108 rfl ?_
                refine at_aload_n C 1 dX7_search_109 rfl ?_
                refine gf_X7_106 C dX7_search_110 ?_
                show AT E 113 [(2, .int (y2_26 + (1 : Int32))), (0, .ref (e_q E 30))] [.int (ac_gi s26 18), .int (y2_26 + (1 : Int32))] (ac_si (ac_sa s26 34 (upd (ac_ga s26 34) (y2_26).toNatClampNeg ((ac_ga s26 34 (y2_26).toNatClampNeg) + (1 : Int32)))) 19 ((ac_gi s26 19) + (1 : Int32)))
                refine at_icmp_ge C 26 dX7_search_113 (by decide) (fun c710 => ?_) (fun c710 => ?_)
                · exact at_sub [1, 0] rfl (ih26 (y2_26 + (1 : Int32)) (ac_si (ac_sa s26 34 (upd (ac_ga s26 34) (y2_26).toNatClampNeg ((ac_ga s26 34 (y2_26).toNatClampNeg) + (1 : Int32)))) 19 ((ac_gi s26 19) + (1 : Int32))) (show (2 * (((ac_gi s26 17)).toInt - (((ac_gi s26 19) + (1 : Int32))).toInt) + ((y2_26 + (1 : Int32))).toInt + 1).toNat < n26 from by have q9 := hm26; have q0 := e0_26; have q1 := ti_add f698 (iv_c (c := 1) (x := (1 : Int32)) (by decide)) (by decide) (by decide); have q2 := ti_add f703 (iv_c (c := 1) (x := (1 : Int32)) (by decide)) (by decide) (by decide); have q3 := (show iv 0 9 y2_26 from f698); have q4 := q3.1; have q5 := (show iv 1 2000 (ac_gi s26 17) from (show iv 1 2000 (ac_gi s26 17) from hG_26.1.1 17)).2; have q6 : (1 : Int32).toInt = 1 := (by decide); have q7 : (-1 : Int32).toInt = -1 := (by decide); have q8 := iv_ne c702; omega) (iv_wk (iv_add f698 (iv_c (c := 1) (x := (1 : Int32)) (by decide)) (by decide) (by decide)) (by decide) (by decide) : iv (-1) 10 (y2_26 + (1 : Int32))) hG704 fr22_26 fr23_26 (show 0 ≤ (((ac_gi s26 19) + (1 : Int32))).toInt ∧ (((ac_gi s26 19) + (1 : Int32))).toInt ≤ ((ac_gi s26 17)).toInt from by have q0 := e0_26; have q1 := ti_add f698 (iv_c (c := 1) (x := (1 : Int32)) (by decide)) (by decide) (by decide); have q2 := ti_add f703 (iv_c (c := 1) (x := (1 : Int32)) (by decide)) (by decide) (by decide); have q3 := (show iv 0 9 y2_26 from f698); have q4 := q3.1; have q5 := (show iv 1 2000 (ac_gi s26 17) from (show iv 1 2000 (ac_gi s26 17) from hG_26.1.1 17)).2; have q6 : (1 : Int32).toInt = 1 := (by decide); have q7 : (-1 : Int32).toInt = -1 := (by decide); have q8 := iv_ne c702; omega))
                · have f711 : iv 1 9 (y2_26 + (1 : Int32)) := (iv_ltl (iv_add f698 (iv_c (c := 1) (x := (1 : Int32)) (by decide)) (by decide) (by decide)) f699 (Int32.not_le.mp c710))
                  have f712 : iv 2 10 (ac_gi s26 18) := (iv_ltr (iv_add f698 (iv_c (c := 1) (x := (1 : Int32)) (by decide)) (by decide) (by decide)) f699 (Int32.not_le.mp c710))
                  refine at_aload_n C 1 dX7_search_116 rfl ?_
                  refine gf_X7_26 C dX7_search_117 ?_
                  refine at_iload_n C 0 dX7_search_120 rfl ?_
                  refine at_iconst C (-1 : Int32) dX7_search_121 (by decide) ?_
                  refine at_iast C (c := 34) rfl (fun f => ac_ast_34 _ _ _ _ f) (iv_in (n := 10) f711 (by decide) (by decide)) dX7_search_122 ?_
                  have hG713 := Gd.sa (c := 34) (i := ((y2_26 + (1 : Int32))).toNatClampNeg) hG704 rfl (iv_wk (iv_c (c := (-1)) (x := (-1 : Int32)) (by decide)) (by decide) (by decide) : iv (-2147483648) 2147483647 (-1 : Int32))
                  refine at_goto C 26 dX7_search_123 (by decide) ?_
                  exact at_sub [1, 0] rfl (ih26 (y2_26 + (1 : Int32)) (ac_sa (ac_si (ac_sa s26 34 (upd (ac_ga s26 34) (y2_26).toNatClampNeg ((ac_ga s26 34 (y2_26).toNatClampNeg) + (1 : Int32)))) 19 ((ac_gi s26 19) + (1 : Int32))) 34 (upd (ac_ga (ac_si (ac_sa s26 34 (upd (ac_ga s26 34) (y2_26).toNatClampNeg ((ac_ga s26 34 (y2_26).toNatClampNeg) + (1 : Int32)))) 19 ((ac_gi s26 19) + (1 : Int32))) 34) ((y2_26 + (1 : Int32))).toNatClampNeg (-1 : Int32))) (show (2 * (((ac_gi s26 17)).toInt - (((ac_gi s26 19) + (1 : Int32))).toInt) + ((y2_26 + (1 : Int32))).toInt + 1).toNat < n26 from by have q9 := hm26; have q0 := e0_26; have q1 := ti_add f698 (iv_c (c := 1) (x := (1 : Int32)) (by decide)) (by decide) (by decide); have q2 := ti_add f703 (iv_c (c := 1) (x := (1 : Int32)) (by decide)) (by decide) (by decide); have q3 := (show iv 0 9 y2_26 from f698); have q4 := q3.1; have q5 := (show iv 1 2000 (ac_gi s26 17) from (show iv 1 2000 (ac_gi s26 17) from hG_26.1.1 17)).2; have q6 : (1 : Int32).toInt = 1 := (by decide); have q7 : (-1 : Int32).toInt = -1 := (by decide); have q8 := iv_ne c702; omega) (iv_wk f711 (by decide) (by decide) : iv (-1) 10 (y2_26 + (1 : Int32))) hG713 fr22_26 fr23_26 (show 0 ≤ (((ac_gi s26 19) + (1 : Int32))).toInt ∧ (((ac_gi s26 19) + (1 : Int32))).toInt ≤ ((ac_gi s26 17)).toInt from by have q0 := e0_26; have q1 := ti_add f698 (iv_c (c := 1) (x := (1 : Int32)) (by decide)) (by decide) (by decide); have q2 := ti_add f703 (iv_c (c := 1) (x := (1 : Int32)) (by decide)) (by decide) (by decide); have q3 := (show iv 0 9 y2_26 from f698); have q4 := q3.1; have q5 := (show iv 1 2000 (ac_gi s26 17) from (show iv 1 2000 (ac_gi s26 17) from hG_26.1.1 17)).2; have q6 : (1 : Int32).toInt = 1 := (by decide); have q7 : (-1 : Int32).toInt = -1 := (by decide); have q8 := iv_ne c702; omega))
            · have f714 : iv 1 2000 (ac_gi s26 19) := (iv_eql (show iv 1 2000 (ac_gi s26 17) from hG_26.1.1 17) c702)
              refine at_bipush C (-5 : Int32) dX7_search_78 (by decide) ?_
              exact hR _ _ _ _ dX7_search_80 ⟨hG700, (iv_wk (iv_c (c := (-5)) (x := (-5 : Int32)) (by decide)) (by decide) (by decide) : iv (-5) 1 (-5 : Int32)), fr22_26, fr23_26⟩
          · have f715 : iv 1 6 (ac_ga (ac_sa s26 34 (upd (ac_ga s26 34) (y2_26).toNatClampNeg ((ac_ga s26 34 (y2_26).toNatClampNeg) + (1 : Int32)))) 34 (y2_26).toNatClampNeg) := (iv_eql (show iv 1 6 (ac_gi s26 16) from hG_26.1.1 16) c701)
            refine at_iinc C (v := (y2_26 + (-1 : Int32))) (lv' := [(2, .int (y2_26 + (-1 : Int32))), (0, .ref (e_q E 30))]) 1 dX7_search_61 rfl rfl hn2 rfl ?_
            refine at_goto C 26 dX7_search_64 (by decide) ?_
            exact at_sub [1, 0] rfl (ih26 (y2_26 + (-1 : Int32)) (ac_sa s26 34 (upd (ac_ga s26 34) (y2_26).toNatClampNeg ((ac_ga s26 34 (y2_26).toNatClampNeg) + (1 : Int32)))) (show (2 * (((ac_gi s26 17)).toInt - ((ac_gi s26 19)).toInt) + ((y2_26 + (-1 : Int32))).toInt + 1).toNat < n26 from by have q9 := hm26; have q0 := e0_26; have q1 := ti_add f698 (iv_c (c := (-1)) (x := (-1 : Int32)) (by decide)) (by decide) (by decide); have q3 := (show iv 0 9 y2_26 from f698); have q4 := q3.1; have q5 := (show iv 1 2000 (ac_gi s26 17) from (show iv 1 2000 (ac_gi s26 17) from hG_26.1.1 17)).2; have q6 : (1 : Int32).toInt = 1 := (by decide); have q7 : (-1 : Int32).toInt = -1 := (by decide); omega) (iv_wk (iv_add f698 (iv_c (c := (-1)) (x := (-1 : Int32)) (by decide)) (by decide) (by decide)) (by decide) (by decide) : iv (-1) 10 (y2_26 + (-1 : Int32))) hG700 fr22_26 fr23_26 (show 0 ≤ ((ac_gi s26 19)).toInt ∧ ((ac_gi s26 19)).toInt ≤ ((ac_gi s26 17)).toInt from e0_26))
  refine at_aload_n C 0 dX7_search_0 rfl ?_
  refine at_iload_n C 1 dX7_search_1 rfl ?_
  refine at_Vv C (As := [.int x1]) (st := []) (b := 30) (ci := 7) (ct_X7_layRow σ x1 hI) mb_X7_layRow ml_X7_113 rfl rfl rfl (by decide) rfl (Nat.le_of_ble_eq_true rfl) dX7_search_2 ?_
  rintro u716 ⟨hg717, fr718, fr719⟩
  have hG720 := hG0.tr hg717
  refine at_aload_n C 0 dX7_search_5 rfl ?_
  refine at_iconst C (0 : Int32) dX7_search_6 (by decide) ?_
  refine pf_X7_117 C dX7_search_7 ?_
  have hG721 := Gd.si (k := 19) hG720 rfl (iv_wk (iv_c (c := 0) (x := (0 : Int32)) (by decide)) (by decide) (by decide) : iv (-2147483648) 2147483647 (0 : Int32))
  refine at_iconst C (0 : Int32) dX7_search_10 (by decide) ?_
  refine at_istore_n C (lv' := [(2, .int (0 : Int32)), (0, .ref (e_q E 30)), (1, .int x1)]) dX7_search_11 hn2 rfl ?_
  refine at_aload_n C 1 dX7_search_12 rfl ?_
  refine gf_X7_106 C dX7_search_13 ?_
  show AT E 16 [(2, .int (0 : Int32)), (0, .ref (e_q E 30)), (1, .int x1)] [.int (ac_gi u716 18)] (ac_si u716 19 (0 : Int32))
  refine at_if_le C 26 dX7_search_16 (by decide) (fun c722 => ?_) (fun c722 => ?_)
  · have f723 : iv 0 0 (ac_gi u716 18) := (iv_lel (show iv 0 10 (ac_gi u716 18) from hg717.1.1 18) (iv_c (c := 0) (x := (0 : Int32)) (by decide)) c722)
    exact at_sub [1, 0] rfl (K26 _ (0 : Int32) (ac_si u716 19 (0 : Int32)) (Nat.lt_succ_self _) (iv_wk (iv_c (c := 0) (x := (0 : Int32)) (by decide)) (by decide) (by decide) : iv (-1) 10 (0 : Int32)) hG721 (fr718.trans rfl) (fr719.trans rfl) (show 0 ≤ ((0 : Int32)).toInt ∧ ((0 : Int32)).toInt ≤ ((ac_gi u716 17)).toInt from ⟨by decide, by have q := (show iv 1 2000 (ac_gi u716 17) from (show iv 1 2000 (ac_gi u716 17) from hg717.1.1 17)).1; have q2 : (0 : Int32).toInt = 0 := (by decide); omega⟩))
  · have f724 : iv 1 10 (ac_gi u716 18) := (iv_ltr (iv_c (c := 0) (x := (0 : Int32)) (by decide)) (show iv 0 10 (ac_gi u716 18) from hg717.1.1 18) (Int32.not_le.mp c722))
    refine at_aload_n C 1 dX7_search_19 rfl ?_
    refine gf_X7_26 C dX7_search_20 ?_
    refine at_iconst C (0 : Int32) dX7_search_23 (by decide) ?_
    refine at_iconst C (-1 : Int32) dX7_search_24 (by decide) ?_
    refine at_iast C (c := 34) rfl (fun f => ac_ast_34 _ _ _ _ f) (iv_in (n := 10) (iv_c (c := 0) (x := (0 : Int32)) (by decide)) (by decide) (by decide)) dX7_search_25 ?_
    have hG725 := Gd.sa (c := 34) (i := ((0 : Int32)).toNatClampNeg) hG721 rfl (iv_wk (iv_c (c := (-1)) (x := (-1 : Int32)) (by decide)) (by decide) (by decide) : iv (-2147483648) 2147483647 (-1 : Int32))
    exact at_sub [1, 0] rfl (K26 _ (0 : Int32) (ac_sa (ac_si u716 19 (0 : Int32)) 34 (upd (ac_ga (ac_si u716 19 (0 : Int32)) 34) ((0 : Int32)).toNatClampNeg (-1 : Int32))) (Nat.lt_succ_self _) (iv_wk (iv_c (c := 0) (x := (0 : Int32)) (by decide)) (by decide) (by decide) : iv (-1) 10 (0 : Int32)) hG725 (fr718.trans rfl) (fr719.trans rfl) (show 0 ≤ ((0 : Int32)).toInt ∧ ((0 : Int32)).toInt ≤ ((ac_gi u716 17)).toInt from ⟨by decide, by have q := (show iv 1 2000 (ac_gi u716 17) from (show iv 1 2000 (ac_gi u716 17) from hg717.1.1 17)).1; have q2 : (0 : Int32).toInt = 0 := (by decide); omega⟩))
set_option maxHeartbeats 4000000 in
set_option maxRecDepth 100000 in
theorem ct_X7_looksGood (σ : SS) (x1 : Int32) (hI : Inv σ) (g1 : iv 0 9 x1) : ConI yX7_looksGood cX7_looksGood 7 (some .boolean) 1 (some 30) [.int x1] σ (fun r σ' => σ = σ' ∧ (r = 0 ∨ r = 1)) := by
  refine conZ_of (by decide) (fun q => Nat.le_of_ble_eq_true rfl) (fun r u h => h.2) (fun E C en hR => ?_)
  have hn2 : 2 < e_n E := by rw [en]; decide
  have hn3 : 3 < e_n E := by rw [en]; decide
  have hn4 : 4 < e_n E := by rw [en]; decide
  have hn5 : 5 < e_n E := by rw [en]; decide
  have hn6 : 6 < e_n E := by rw [en]; decide
  have K4 : ∀ (n4 : Nat) (y2_4 : Int32), (10 - (y2_4).toInt).toNat < n4 → iv 1 10 y2_4 → AT E 4 [(0, .ref (e_q E 30)), (1, .int x1), (2, .int y2_4)] [] σ := by
    intro n4
    induction n4 with
    | zero => intro y2_4 hm; exact absurd hm (Nat.not_lt_zero _)
    | succ n4 ih4 =>
      intro y2_4 hm4 b2_4
      have K17 : ∀ (n17 : Nat) (y3_17 : Int32) (y4_17 : Int32), (6 - (y4_17).toInt).toNat < n17 → iv 1 9 y2_4 → iv 0 1 y3_17 → iv 0 6 y4_17 → AT E 17 [(0, .ref (e_q E 30)), (1, .int x1), (2, .int y2_4), (3, .int y3_17), (4, .int y4_17)] [] σ := by
        intro n17
        induction n17 with
        | zero => intro y3_17 y4_17 hm; exact absurd hm (Nat.not_lt_zero _)
        | succ n17 ih17 =>
          intro y3_17 y4_17 hm17 b2_17 b3_17 b4_17
          have K59 : ∀ (n59 : Nat) (y5_59 : Int32) (y6_59 : Int32), (10 - (y6_59).toInt).toNat < n59 → iv 0 5 y4_17 → iv 0 1 y5_59 → iv 0 10 y6_59 → AT E 59 [(0, .ref (e_q E 30)), (1, .int x1), (2, .int y2_4), (4, .int y4_17), (5, .int y5_59), (6, .int y6_59)] [] σ := by
            intro n59
            induction n59 with
            | zero => intro y5_59 y6_59 hm; exact absurd hm (Nat.not_lt_zero _)
            | succ n59 ih59 =>
              intro y5_59 y6_59 hm59 b4_59 b5_59 b6_59
              refine at_iload C 5 dX7_looksGood_59 rfl ?_
              refine at_iload_n C 1 dX7_looksGood_61 rfl ?_
              refine at_icmp_gt C 112 dX7_looksGood_62 (by decide) (fun c391 => ?_) (fun c391 => ?_)
              · have f392 : iv 1 10 y6_59 := (iv_ltr g1 b6_59 c391)
                refine at_iload C 4 dX7_looksGood_112 rfl ?_
                refine at_istore_n C (lv' := [(3, .int y5_59), (0, .ref (e_q E 30)), (1, .int x1), (2, .int y2_4), (4, .int y4_17), (5, .int y5_59), (6, .int y6_59)]) dX7_looksGood_114 hn3 rfl ?_
                refine at_iinc C (v := (y4_17 + (1 : Int32))) (lv' := [(4, .int (y4_17 + (1 : Int32))), (3, .int y5_59), (0, .ref (e_q E 30)), (1, .int x1), (2, .int y2_4), (5, .int y5_59), (6, .int y6_59)]) 4 dX7_looksGood_115 rfl rfl hn4 rfl ?_
                refine at_goto C 17 dX7_looksGood_118 (by decide) ?_
                exact at_sub [2, 3, 4, 1, 0] rfl (ih17 y5_59 (y4_17 + (1 : Int32)) (mz_up hm17 (ac_ti1 b4_59 (iv_c (c := 1) (x := (1 : Int32)) (by decide)) (by decide) (by decide) (by decide)) (by decide) (iv_wk (iv_add b4_59 (iv_c (c := 1) (x := (1 : Int32)) (by decide)) (by decide) (by decide)) (by decide) (by decide) : iv 0 6 (y4_17 + (1 : Int32))).2) (show iv 1 9 y2_4 from b2_17) (show iv 0 1 y5_59 from b5_59) (iv_wk (iv_add b4_59 (iv_c (c := 1) (x := (1 : Int32)) (by decide)) (by decide) (by decide)) (by decide) (by decide) : iv 0 6 (y4_17 + (1 : Int32))))
              · have f393 : iv 0 9 y6_59 := (iv_lel b6_59 g1 (Int32.not_lt.mp c391))
                refine at_iload C 4 dX7_looksGood_65 rfl ?_
                refine at_if_eq C 112 dX7_looksGood_67 (by decide) (fun c394 => ?_) (fun c394 => ?_)
                · have f395 : iv 0 0 y5_59 := (iv_eql (iv_c (c := 0) (x := (0 : Int32)) (by decide)) c394)
                  refine at_iload C 4 dX7_looksGood_112 rfl ?_
                  refine at_istore_n C (lv' := [(3, .int y5_59), (0, .ref (e_q E 30)), (1, .int x1), (2, .int y2_4), (4, .int y4_17), (5, .int y5_59), (6, .int y6_59)]) dX7_looksGood_114 hn3 rfl ?_
                  refine at_iinc C (v := (y4_17 + (1 : Int32))) (lv' := [(4, .int (y4_17 + (1 : Int32))), (3, .int y5_59), (0, .ref (e_q E 30)), (1, .int x1), (2, .int y2_4), (5, .int y5_59), (6, .int y6_59)]) 4 dX7_looksGood_115 rfl rfl hn4 rfl ?_
                  refine at_goto C 17 dX7_looksGood_118 (by decide) ?_
                  exact at_sub [2, 3, 4, 1, 0] rfl (ih17 y5_59 (y4_17 + (1 : Int32)) (mz_up hm17 (ac_ti1 b4_59 (iv_c (c := 1) (x := (1 : Int32)) (by decide)) (by decide) (by decide) (by decide)) (by decide) (iv_wk (iv_add b4_59 (iv_c (c := 1) (x := (1 : Int32)) (by decide)) (by decide) (by decide)) (by decide) (by decide) : iv 0 6 (y4_17 + (1 : Int32))).2) (show iv 1 9 y2_4 from b2_17) (iv_wk f395 (by decide) (by decide) : iv 0 1 y5_59) (iv_wk (iv_add b4_59 (iv_c (c := 1) (x := (1 : Int32)) (by decide)) (by decide) (by decide)) (by decide) (by decide) : iv 0 6 (y4_17 + (1 : Int32))))
                · have f396 : iv 1 1 y5_59 := (iv_nel b5_59 (by decide) c394)
                  refine at_aload_n C 0 dX7_looksGood_70 rfl ?_
                  refine at_aload_n C 0 dX7_looksGood_71 rfl ?_
                  refine gf_X7_23 C dX7_looksGood_72 ?_
                  refine at_iload_n C 2 dX7_looksGood_75 rfl ?_
                  refine at_iald C (c := 33) rfl (iv_in (n := 10) b2_17 (by decide) (by decide)) dX7_looksGood_76 ?_
                  refine at_aload_n C 0 dX7_looksGood_77 rfl ?_
                  refine gf_X7_23 C dX7_looksGood_78 ?_
                  refine at_iload C 5 dX7_looksGood_81 rfl ?_
                  refine at_iald C (c := 33) rfl (iv_in (n := 10) f393 (by decide) (by decide)) dX7_looksGood_83 ?_
                  refine at_iload C 3 dX7_looksGood_84 rfl ?_
                  refine at_aload_n C 0 dX7_looksGood_86 rfl ?_
                  refine gf_X7_26 C dX7_looksGood_87 ?_
                  refine at_iload C 5 dX7_looksGood_90 rfl ?_
                  refine at_iald C (c := 34) rfl (iv_in (n := 10) f393 (by decide) (by decide)) dX7_looksGood_92 ?_
                  refine at_Vi C (As := [.int (ac_ga σ 33 (y2_4).toNatClampNeg), .int (ac_ga σ 33 (y6_59).toNatClampNeg), .int y4_17, .int (ac_ga σ 34 (y6_59).toNatClampNeg)]) (st := []) (b := 30) (ci := 7) (ct_X7_breaks σ (ac_ga σ 33 (y2_4).toNatClampNeg) (ac_ga σ 33 (y6_59).toNatClampNeg) y4_17 (ac_ga σ 34 (y6_59).toNatClampNeg) hI (show iv 0 9 (ac_ga σ 33 (y2_4).toNatClampNeg) from (show iv 0 9 (ac_ga σ 33 (y2_4).toNatClampNeg) from hI.2 33 _)) (show iv 0 9 (ac_ga σ 33 (y6_59).toNatClampNeg) from (show iv 0 9 (ac_ga σ 33 (y6_59).toNatClampNeg) from hI.2 33 _))) mb_X7_breaks ml_X7_109 rfl rfl rfl (by decide) rfl (Nat.le_of_ble_eq_true rfl) dX7_looksGood_93 ?_
                  rintro _ _ ⟨rfl, rfl | rfl⟩
                  · refine at_if_ne C 103 dX7_looksGood_96 (by decide) (fun c400 => absurd (iv_xne (iv_c (c := 0) (x := (0 : Int32)) (by decide)) (iv_c (c := 0) (x := (0 : Int32)) (by decide))) c400) (fun c400 => ?_)
                    refine at_iconst C (1 : Int32) dX7_looksGood_99 (by decide) ?_
                    refine at_goto C 104 dX7_looksGood_100 (by decide) ?_
                    refine at_istore C (lv' := [(5, .int (1 : Int32)), (0, .ref (e_q E 30)), (1, .int x1), (2, .int y2_4), (4, .int y4_17), (6, .int y6_59)]) dX7_looksGood_104 hn5 rfl ?_
                    refine at_iinc C (v := (y6_59 + (1 : Int32))) (lv' := [(6, .int (y6_59 + (1 : Int32))), (5, .int (1 : Int32)), (0, .ref (e_q E 30)), (1, .int x1), (2, .int y2_4), (4, .int y4_17)]) 5 dX7_looksGood_106 rfl rfl hn6 rfl ?_
                    refine at_goto C 59 dX7_looksGood_109 (by decide) ?_
                    exact at_sub [2, 3, 4, 5, 1, 0] rfl (ih59 (1 : Int32) (y6_59 + (1 : Int32)) (mz_up hm59 (ac_ti1 f393 (iv_c (c := 1) (x := (1 : Int32)) (by decide)) (by decide) (by decide) (by decide)) (by decide) (iv_wk (iv_add f393 (iv_c (c := 1) (x := (1 : Int32)) (by decide)) (by decide) (by decide)) (by decide) (by decide) : iv 0 10 (y6_59 + (1 : Int32))).2) (show iv 0 5 y4_17 from b4_59) (iv_wk (iv_c (c := 1) (x := (1 : Int32)) (by decide)) (by decide) (by decide) : iv 0 1 (1 : Int32)) (iv_wk (iv_add f393 (iv_c (c := 1) (x := (1 : Int32)) (by decide)) (by decide) (by decide)) (by decide) (by decide) : iv 0 10 (y6_59 + (1 : Int32))))
                  · refine at_if_ne C 103 dX7_looksGood_96 (by decide) (fun c401 => ?_) (fun c401 => absurd c401 (iv_xeq (iv_c (c := 1) (x := (1 : Int32)) (by decide)) (iv_c (c := 0) (x := (0 : Int32)) (by decide)) (by decide)))
                    refine at_iconst C (0 : Int32) dX7_looksGood_103 (by decide) ?_
                    refine at_istore C (lv' := [(5, .int (0 : Int32)), (0, .ref (e_q E 30)), (1, .int x1), (2, .int y2_4), (4, .int y4_17), (6, .int y6_59)]) dX7_looksGood_104 hn5 rfl ?_
                    refine at_iinc C (v := (y6_59 + (1 : Int32))) (lv' := [(6, .int (y6_59 + (1 : Int32))), (5, .int (0 : Int32)), (0, .ref (e_q E 30)), (1, .int x1), (2, .int y2_4), (4, .int y4_17)]) 5 dX7_looksGood_106 rfl rfl hn6 rfl ?_
                    refine at_goto C 59 dX7_looksGood_109 (by decide) ?_
                    exact at_sub [2, 3, 4, 5, 1, 0] rfl (ih59 (0 : Int32) (y6_59 + (1 : Int32)) (mz_up hm59 (ac_ti1 f393 (iv_c (c := 1) (x := (1 : Int32)) (by decide)) (by decide) (by decide) (by decide)) (by decide) (iv_wk (iv_add f393 (iv_c (c := 1) (x := (1 : Int32)) (by decide)) (by decide) (by decide)) (by decide) (by decide) : iv 0 10 (y6_59 + (1 : Int32))).2) (show iv 0 5 y4_17 from b4_59) (iv_wk (iv_c (c := 0) (x := (0 : Int32)) (by decide)) (by decide) (by decide) : iv 0 1 (0 : Int32)) (iv_wk (iv_add f393 (iv_c (c := 1) (x := (1 : Int32)) (by decide)) (by decide) (by decide)) (by decide) (by decide) : iv 0 10 (y6_59 + (1 : Int32))))
          refine at_iload C 4 dX7_looksGood_17 rfl ?_
          refine at_aload_n C 0 dX7_looksGood_19 rfl ?_
          refine gf_X7_7 C dX7_looksGood_20 ?_
          refine at_icmp_ge C 121 dX7_looksGood_23 (by decide) (fun c402 => ?_) (fun c402 => ?_)
          · have f403 : iv 1 6 y4_17 := (iv_ler (show iv 1 6 (ac_gi σ 16) from hI.1 16) b4_17 c402)
            refine at_iload_n C 3 dX7_looksGood_121 rfl ?_
            refine at_if_ne C 127 dX7_looksGood_122 (by decide) (fun c404 => ?_) (fun c404 => ?_)
            · have f405 : iv 1 1 y3_17 := (iv_nel b3_17 (by decide) c404)
              refine at_iinc C (v := (y2_4 + (1 : Int32))) (lv' := [(2, .int (y2_4 + (1 : Int32))), (0, .ref (e_q E 30)), (1, .int x1), (3, .int y3_17), (4, .int y4_17)]) 2 dX7_looksGood_127 rfl rfl hn2 rfl ?_
              refine at_goto C 4 dX7_looksGood_130 (by decide) ?_
              exact at_sub [1, 2, 0] rfl (ih4 (y2_4 + (1 : Int32)) (mz_up hm4 (ac_ti1 b2_17 (iv_c (c := 1) (x := (1 : Int32)) (by decide)) (by decide) (by decide) (by decide)) (by decide) (iv_wk (iv_add b2_17 (iv_c (c := 1) (x := (1 : Int32)) (by decide)) (by decide) (by decide)) (by decide) (by decide) : iv 1 10 (y2_4 + (1 : Int32))).2) (iv_wk (iv_add b2_17 (iv_c (c := 1) (x := (1 : Int32)) (by decide)) (by decide) (by decide)) (by decide) (by decide) : iv 1 10 (y2_4 + (1 : Int32))))
            · have f406 : iv 0 0 y3_17 := (iv_eql (iv_c (c := 0) (x := (0 : Int32)) (by decide)) c404)
              refine at_iconst C (0 : Int32) dX7_looksGood_125 (by decide) ?_
              exact hR _ _ _ _ dX7_looksGood_126 ⟨rfl, Or.inl rfl⟩
          · have f407 : iv 0 5 y4_17 := (iv_ltl b4_17 (show iv 1 6 (ac_gi σ 16) from hI.1 16) (Int32.not_le.mp c402))
            refine at_iload_n C 3 dX7_looksGood_26 rfl ?_
            refine at_if_ne C 121 dX7_looksGood_27 (by decide) (fun c408 => ?_) (fun c408 => ?_)
            · have f409 : iv 1 1 y3_17 := (iv_nel b3_17 (by decide) c408)
              refine at_iload_n C 3 dX7_looksGood_121 rfl ?_
              refine at_if_ne C 127 dX7_looksGood_122 (by decide) (fun c410 => ?_) (fun c410 => absurd c410 (iv_xeq f409 (iv_c (c := 0) (x := (0 : Int32)) (by decide)) (by decide)))
              refine at_iinc C (v := (y2_4 + (1 : Int32))) (lv' := [(2, .int (y2_4 + (1 : Int32))), (0, .ref (e_q E 30)), (1, .int x1), (3, .int y3_17), (4, .int y4_17)]) 2 dX7_looksGood_127 rfl rfl hn2 rfl ?_
              refine at_goto C 4 dX7_looksGood_130 (by decide) ?_
              exact at_sub [1, 2, 0] rfl (ih4 (y2_4 + (1 : Int32)) (mz_up hm4 (ac_ti1 b2_17 (iv_c (c := 1) (x := (1 : Int32)) (by decide)) (by decide) (by decide) (by decide)) (by decide) (iv_wk (iv_add b2_17 (iv_c (c := 1) (x := (1 : Int32)) (by decide)) (by decide) (by decide)) (by decide) (by decide) : iv 1 10 (y2_4 + (1 : Int32))).2) (iv_wk (iv_add b2_17 (iv_c (c := 1) (x := (1 : Int32)) (by decide)) (by decide) (by decide)) (by decide) (by decide) : iv 1 10 (y2_4 + (1 : Int32))))
            · have f411 : iv 0 0 y3_17 := (iv_eql (iv_c (c := 0) (x := (0 : Int32)) (by decide)) c408)
              refine at_aload_n C 0 dX7_looksGood_30 rfl ?_
              refine gf_X7_20 C dX7_looksGood_31 ?_
              refine at_aload_n C 0 dX7_looksGood_34 rfl ?_
              refine gf_X7_23 C dX7_looksGood_35 ?_
              refine at_iload_n C 2 dX7_looksGood_38 rfl ?_
              refine at_iald C (c := 33) rfl (iv_in (n := 10) b2_17 (by decide) (by decide)) dX7_looksGood_39 ?_
              refine at_iald C (c := 32) rfl (iv_in (n := 10) (show iv 0 9 (ac_ga σ 33 (y2_4).toNatClampNeg) from hI.2 33 _) (by decide) (by decide)) dX7_looksGood_40 ?_
              refine at_iload C 4 dX7_looksGood_41 rfl ?_
              refine at_ishr C dX7_looksGood_43 ?_
              refine at_iconst C (1 : Int32) dX7_looksGood_44 (by decide) ?_
              refine at_iand C dX7_looksGood_45 ?_
              refine at_if_ne C 53 dX7_looksGood_46 (by decide) (fun c412 => ?_) (fun c412 => ?_)
              · have f413 : iv 1 1 (((ac_ga σ 32 ((ac_ga σ 33 (y2_4).toNatClampNeg)).toNatClampNeg) >>> (y4_17 &&& 31)) &&& (1 : Int32)) := (iv_nel (iv_andr (iv_wk (c := 0) (iv_c (c := 1) (x := (1 : Int32)) (by decide)) (by decide) (Int.le_refl _))) (by decide) c412)
                refine at_iconst C (0 : Int32) dX7_looksGood_53 (by decide) ?_
                refine at_istore C (lv' := [(5, .int (0 : Int32)), (0, .ref (e_q E 30)), (1, .int x1), (2, .int y2_4), (3, .int y3_17), (4, .int y4_17)]) dX7_looksGood_54 hn5 rfl ?_
                refine at_iconst C (0 : Int32) dX7_looksGood_56 (by decide) ?_
                refine at_istore C (lv' := [(6, .int (0 : Int32)), (5, .int (0 : Int32)), (0, .ref (e_q E 30)), (1, .int x1), (2, .int y2_4), (3, .int y3_17), (4, .int y4_17)]) dX7_looksGood_57 hn6 rfl ?_
                exact at_sub [2, 3, 4, 6, 1, 0] rfl (K59 _ (0 : Int32) (0 : Int32) (Nat.lt_succ_self _) (show iv 0 5 y4_17 from f407) (iv_wk (iv_c (c := 0) (x := (0 : Int32)) (by decide)) (by decide) (by decide) : iv 0 1 (0 : Int32)) (iv_wk (iv_c (c := 0) (x := (0 : Int32)) (by decide)) (by decide) (by decide) : iv 0 10 (0 : Int32)))
              · have f414 : iv 0 0 (((ac_ga σ 32 ((ac_ga σ 33 (y2_4).toNatClampNeg)).toNatClampNeg) >>> (y4_17 &&& 31)) &&& (1 : Int32)) := (iv_eql (iv_c (c := 0) (x := (0 : Int32)) (by decide)) c412)
                refine at_iconst C (1 : Int32) dX7_looksGood_49 (by decide) ?_
                refine at_goto C 54 dX7_looksGood_50 (by decide) ?_
                refine at_istore C (lv' := [(5, .int (1 : Int32)), (0, .ref (e_q E 30)), (1, .int x1), (2, .int y2_4), (3, .int y3_17), (4, .int y4_17)]) dX7_looksGood_54 hn5 rfl ?_
                refine at_iconst C (0 : Int32) dX7_looksGood_56 (by decide) ?_
                refine at_istore C (lv' := [(6, .int (0 : Int32)), (5, .int (1 : Int32)), (0, .ref (e_q E 30)), (1, .int x1), (2, .int y2_4), (3, .int y3_17), (4, .int y4_17)]) dX7_looksGood_57 hn6 rfl ?_
                exact at_sub [2, 3, 4, 6, 1, 0] rfl (K59 _ (1 : Int32) (0 : Int32) (Nat.lt_succ_self _) (show iv 0 5 y4_17 from f407) (iv_wk (iv_c (c := 1) (x := (1 : Int32)) (by decide)) (by decide) (by decide) : iv 0 1 (1 : Int32)) (iv_wk (iv_c (c := 0) (x := (0 : Int32)) (by decide)) (by decide) (by decide) : iv 0 10 (0 : Int32)))
      refine at_iload_n C 2 dX7_looksGood_4 rfl ?_
      refine at_aload_n C 0 dX7_looksGood_5 rfl ?_
      refine gf_X7_106 C dX7_looksGood_6 ?_
      refine at_icmp_ge C 133 dX7_looksGood_9 (by decide) (fun c415 => ?_) (fun c415 => ?_)
      · refine at_iconst C (1 : Int32) dX7_looksGood_133 (by decide) ?_
        exact hR _ _ _ _ dX7_looksGood_134 ⟨rfl, Or.inr rfl⟩
      · have f416 : iv 1 9 y2_4 := (iv_ltl b2_4 (show iv 0 10 (ac_gi σ 18) from hI.1 18) (Int32.not_le.mp c415))
        have f417 : iv 2 10 (ac_gi σ 18) := (iv_ltr b2_4 (show iv 0 10 (ac_gi σ 18) from hI.1 18) (Int32.not_le.mp c415))
        refine at_iconst C (0 : Int32) dX7_looksGood_12 (by decide) ?_
        refine at_istore_n C (lv' := [(3, .int (0 : Int32)), (0, .ref (e_q E 30)), (1, .int x1), (2, .int y2_4)]) dX7_looksGood_13 hn3 rfl ?_
        refine at_iconst C (0 : Int32) dX7_looksGood_14 (by decide) ?_
        refine at_istore C (lv' := [(4, .int (0 : Int32)), (3, .int (0 : Int32)), (0, .ref (e_q E 30)), (1, .int x1), (2, .int y2_4)]) dX7_looksGood_15 hn4 rfl ?_
        exact at_sub [2, 3, 4, 1, 0] rfl (K17 _ (0 : Int32) (0 : Int32) (Nat.lt_succ_self _) (show iv 1 9 y2_4 from f416) (iv_wk (iv_c (c := 0) (x := (0 : Int32)) (by decide)) (by decide) (by decide) : iv 0 1 (0 : Int32)) (iv_wk (iv_c (c := 0) (x := (0 : Int32)) (by decide)) (by decide) (by decide) : iv 0 6 (0 : Int32)))
  refine at_iload_n C 1 dX7_looksGood_0 rfl ?_
  refine at_iconst C (1 : Int32) dX7_looksGood_1 (by decide) ?_
  refine at_iadd C dX7_looksGood_2 ?_
  refine at_istore_n C (lv' := [(2, .int (x1 + (1 : Int32))), (0, .ref (e_q E 30)), (1, .int x1)]) dX7_looksGood_3 hn2 rfl ?_
  exact at_sub [1, 2, 0] rfl (K4 _ (x1 + (1 : Int32)) (Nat.lt_succ_self _) (show iv 1 10 (x1 + (1 : Int32)) from (iv_add g1 (iv_c (c := 1) (x := (1 : Int32)) (by decide)) (by decide) (by decide))))
