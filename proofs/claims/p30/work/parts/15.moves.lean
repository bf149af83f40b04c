set_option maxHeartbeats 4000000 in
set_option maxRecDepth 100000 in
theorem ct_X2_toMove (σ : SS) (hI : Inv σ) : ConI yX2_toMove cX2_toMove 3 (some .int) 0 (some 6) [] σ (fun r σ' => σ = σ' ∧ iv 0 1023 r) := by
  refine conI_of (by decide) (fun q => Nat.le_of_ble_eq_true rfl) (fun E C en hR => ?_)
  have hn1 : 1 < e_n E := by rw [en]; decide
  have hn2 : 2 < e_n E := by rw [en]; decide
  have K4 : ∀ (n4 : Nat) (y1_4 : Int32) (y2_4 : Int32), (10 - (y2_4).toInt).toNat < n4 → iv 0 1023 y1_4 → iv 0 10 y2_4 → AT E 4 [(0, .ref (e_q E 6)), (1, .int y1_4), (2, .int y2_4)] [] σ := by
    intro n4
    induction n4 with
    | zero => intro y1_4 y2_4 hm; exact absurd hm (Nat.not_lt_zero _)
    | succ n4 ih4 =>
      intro y1_4 y2_4 hm4 b1_4 b2_4
      refine at_iload_n C 2 dX2_toMove_4 rfl ?_
      refine at_aload_n C 0 dX2_toMove_5 rfl ?_
      refine gf_X2_21 C dX2_toMove_6 ?_
      refine gf_X2_40 C dX2_toMove_9 ?_
      refine at_icmp_ge C 46 dX2_toMove_12 (by decide) (fun c61 => ?_) (fun c61 => ?_)
      · refine at_iload_n C 1 dX2_toMove_46 rfl ?_
        exact hR _ _ _ _ dX2_toMove_47 ⟨rfl, (show iv 0 1023 y1_4 from b1_4)⟩
      · have f62 : iv 0 9 y2_4 := (iv_ltl b2_4 (show iv 0 10 (ac_gi σ 0) from hI.1 0) (Int32.not_le.mp c61))
        have f63 : iv 1 10 (ac_gi σ 0) := (iv_ltr b2_4 (show iv 0 10 (ac_gi σ 0) from hI.1 0) (Int32.not_le.mp c61))
        refine at_iload_n C 1 dX2_toMove_15 rfl ?_
        refine at_aload_n C 0 dX2_toMove_16 rfl ?_
        refine gf_X2_9 C dX2_toMove_17 ?_
        refine at_iload_n C 2 dX2_toMove_20 rfl ?_
        refine at_iald C (c := 27) rfl (iv_in (n := 10) f62 (by decide) (by decide)) dX2_toMove_21 ?_
        refine at_aload_n C 0 dX2_toMove_22 rfl ?_
        refine gf_X2_15 C dX2_toMove_23 ?_
        refine at_iload_n C 2 dX2_toMove_26 rfl ?_
        refine at_iald C (c := 28) rfl (iv_in (n := 10) f62 (by decide) (by decide)) dX2_toMove_27 ?_
        refine at_icmp_eq C 37 dX2_toMove_28 (by decide) (fun c64 => ?_) (fun c64 => ?_)
        · refine at_iconst C (0 : Int32) dX2_toMove_37 (by decide) ?_
          refine at_ior C dX2_toMove_38 ?_
          refine at_istore_n C (lv' := [(1, .int (y1_4 ||| (0 : Int32))), (0, .ref (e_q E 6)), (2, .int y2_4)]) dX2_toMove_39 hn1 rfl ?_
          refine at_iinc C (v := (y2_4 + (1 : Int32))) (lv' := [(2, .int (y2_4 + (1 : Int32))), (1, .int (y1_4 ||| (0 : Int32))), (0, .ref (e_q E 6))]) 2 dX2_toMove_40 rfl rfl hn2 rfl ?_
          refine at_goto C 4 dX2_toMove_43 (by decide) ?_
          exact at_sub [2, 1, 0] rfl (ih4 (y1_4 ||| (0 : Int32)) (y2_4 + (1 : Int32)) (mz_up hm4 (ac_ti1 f62 (iv_c (c := 1) (x := (1 : Int32)) (by decide)) (by decide) (by decide) (by decide)) (by decide) (iv_wk (iv_add f62 (iv_c (c := 1) (x := (1 : Int32)) (by decide)) (by decide) (by decide)) (by decide) (by decide) : iv 0 10 (y2_4 + (1 : Int32))).2) (show iv 0 1023 (y1_4 ||| (0 : Int32)) from (iv_or 10 b1_4 (iv_c (c := 0) (x := (0 : Int32)) (by decide)) (by decide) (by decide) (by decide))) (iv_wk (iv_add f62 (iv_c (c := 1) (x := (1 : Int32)) (by decide)) (by decide) (by decide)) (by decide) (by decide) : iv 0 10 (y2_4 + (1 : Int32))))
        · refine at_iconst C (1 : Int32) dX2_toMove_31 (by decide) ?_
          refine at_iload_n C 2 dX2_toMove_32 rfl ?_
          refine at_ishl C dX2_toMove_33 ?_
          refine at_goto C 38 dX2_toMove_34 (by decide) ?_
          refine at_ior C dX2_toMove_38 ?_
          refine at_istore_n C (lv' := [(1, .int (y1_4 ||| ((1 : Int32) <<< (y2_4 &&& 31)))), (0, .ref (e_q E 6)), (2, .int y2_4)]) dX2_toMove_39 hn1 rfl ?_
          refine at_iinc C (v := (y2_4 + (1 : Int32))) (lv' := [(2, .int (y2_4 + (1 : Int32))), (1, .int (y1_4 ||| ((1 : Int32) <<< (y2_4 &&& 31)))), (0, .ref (e_q E 6))]) 2 dX2_toMove_40 rfl rfl hn2 rfl ?_
          refine at_goto C 4 dX2_toMove_43 (by decide) ?_
          exact at_sub [2, 1, 0] rfl (ih4 (y1_4 ||| ((1 : Int32) <<< (y2_4 &&& 31))) (y2_4 + (1 : Int32)) (mz_up hm4 (ac_ti1 f62 (iv_c (c := 1) (x := (1 : Int32)) (by decide)) (by decide) (by decide) (by decide)) (by decide) (iv_wk (iv_add f62 (iv_c (c := 1) (x := (1 : Int32)) (by decide)) (by decide) (by decide)) (by decide) (by decide) : iv 0 10 (y2_4 + (1 : Int32))).2) (show iv 0 1023 (y1_4 ||| ((1 : Int32) <<< (y2_4 &&& 31))) from (iv_or 10 b1_4 (iv_wk (c := 0) (iv_shl1 (a := 0) (b := 9) f62 (by decide)) (by decide) (Int.le_refl _)) (by decide) (by decide) (by decide))) (iv_wk (iv_add f62 (iv_c (c := 1) (x := (1 : Int32)) (by decide)) (by decide) (by decide)) (by decide) (by decide) : iv 0 10 (y2_4 + (1 : Int32))))
  refine at_iconst C (0 : Int32) dX2_toMove_0 (by decide) ?_
  refine at_istore_n C (lv' := [(1, .int (0 : Int32)), (0, .ref (e_q E 6))]) dX2_toMove_1 hn1 rfl ?_
  refine at_iconst C (0 : Int32) dX2_toMove_2 (by decide) ?_
  refine at_istore_n C (lv' := [(2, .int (0 : Int32)), (1, .int (0 : Int32)), (0, .ref (e_q E 6))]) dX2_toMove_3 hn2 rfl ?_
  exact at_sub [2, 1, 0] rfl (K4 _ (0 : Int32) (0 : Int32) (Nat.lt_succ_self _) (iv_wk (iv_c (c := 0) (x := (0 : Int32)) (by decide)) (by decide) (by decide) : iv 0 1023 (0 : Int32)) (iv_wk (iv_c (c := 0) (x := (0 : Int32)) (by decide)) (by decide) (by decide) : iv 0 10 (0 : Int32)))
set_option maxHeartbeats 4000000 in
set_option maxRecDepth 100000 in
theorem ct_X2_channelOf (σ : SS) (x1 : Int32) (x2 : Int32) (hI : Inv σ) : ConI yX2_channelOf cX2_channelOf 3 (some .int) 1 (some 6) [.int x1, .int x2] σ (fun r σ' => σ = σ' ∧ iv (-2147483648) 2147483647 r) := by
  refine conI_of (by decide) (fun q => Nat.le_of_ble_eq_true rfl) (fun E C en hR => ?_)
  refine at_aload_n C 0 dX2_channelOf_0 rfl ?_
  refine gf_X2_21 C dX2_channelOf_1 ?_
  refine at_iload_n C 1 dX2_channelOf_4 rfl ?_
  refine at_Vi C (As := [.int x1]) (st := []) (b := 1) (ci := 0) (ct_X0_isMast σ x1) mb_X0_isMast ml_X2_61 rfl rfl rfl (by decide) rfl (Nat.le_of_ble_eq_true rfl) dX2_channelOf_5 ?_
  rintro _ _ ⟨rfl, ⟨rfl, c64⟩ | ⟨rfl, c64⟩⟩
  · have f66 : iv 0 9 x1 := (iv_of3 c64 (show iv 0 10 (ac_gi σ 0) from hI.1 0))
    refine at_if_ne C 13 dX2_channelOf_8 (by decide) (fun c67 => ?_) (fun c67 => absurd c67 (iv_xeq (iv_c (c := 1) (x := (1 : Int32)) (by decide)) (iv_c (c := 0) (x := (0 : Int32)) (by decide)) (by decide)))
    refine at_iload_n C 2 dX2_channelOf_13 rfl ?_
    refine at_iload_n C 1 dX2_channelOf_14 rfl ?_
    refine at_Ni C (As := [.int x2, .int x1]) (st := []) (ct_X6_has σ x2 x1) mb_X6_has ml_X2_49 rfl (by decide) rfl (Nat.le_of_ble_eq_true rfl) dX2_channelOf_15 ?_
    rintro _ _ ⟨rfl, ⟨rfl, c68⟩ | ⟨rfl, c68⟩⟩
    · refine at_if_eq C 30 dX2_channelOf_18 (by decide) (fun c70 => absurd c70 (iv_xeq (iv_c (c := 1) (x := (1 : Int32)) (by decide)) (iv_c (c := 0) (x := (0 : Int32)) (by decide)) (by decide))) (fun c70 => ?_)
      refine at_aload_n C 0 dX2_channelOf_21 rfl ?_
      refine gf_X2_15 C dX2_channelOf_22 ?_
      refine at_iload_n C 1 dX2_channelOf_25 rfl ?_
      refine at_iald C (c := 28) rfl (iv_in (n := 10) f66 (by decide) (by decide)) dX2_channelOf_26 ?_
      refine at_goto C 36 dX2_channelOf_27 (by decide) ?_
      exact hR _ _ _ _ dX2_channelOf_36 ⟨rfl, (show iv (-2147483648) 2147483647 (ac_ga σ 28 (x1).toNatClampNeg) from (iv_any (ac_ga σ 28 (x1).toNatClampNeg)))⟩
    · refine at_if_eq C 30 dX2_channelOf_18 (by decide) (fun c71 => ?_) (fun c71 => absurd (iv_xne (iv_c (c := 0) (x := (0 : Int32)) (by decide)) (iv_c (c := 0) (x := (0 : Int32)) (by decide))) c71)
      refine at_aload_n C 0 dX2_channelOf_30 rfl ?_
      refine gf_X2_9 C dX2_channelOf_31 ?_
      refine at_iload_n C 1 dX2_channelOf_34 rfl ?_
      refine at_iald C (c := 27) rfl (iv_in (n := 10) f66 (by decide) (by decide)) dX2_channelOf_35 ?_
      exact hR _ _ _ _ dX2_channelOf_36 ⟨rfl, (show iv (-2147483648) 2147483647 (ac_ga σ 27 (x1).toNatClampNeg) from (iv_any (ac_ga σ 27 (x1).toNatClampNeg)))⟩
  · refine at_if_ne C 13 dX2_channelOf_8 (by decide) (fun c72 => absurd (iv_xne (iv_c (c := 0) (x := (0 : Int32)) (by decide)) (iv_c (c := 0) (x := (0 : Int32)) (by decide))) c72) (fun c72 => ?_)
    refine at_iconst C (-1 : Int32) dX2_channelOf_11 (by decide) ?_
    exact hR _ _ _ _ dX2_channelOf_12 ⟨rfl, (iv_wk (iv_c (c := (-1)) (x := (-1 : Int32)) (by decide)) (by decide) (by decide) : iv (-2147483648) 2147483647 (-1 : Int32))⟩
set_option maxHeartbeats 4000000 in
set_option maxRecDepth 100000 in
theorem ct_X2_nobodyIsHeard (σ : SS) (x1 : Int32) (hI : Inv σ) : ConI yX2_nobodyIsHeard cX2_nobodyIsHeard 5 (some .boolean) 2 (some 6) [.int x1] σ (fun r σ' => σ = σ' ∧ (r = 0 ∨ r = 1)) := by
  refine conZ_of (by decide) (fun q => Nat.le_of_ble_eq_true rfl) (fun r u h => h.2) (fun E C en hR => ?_)
  have hn2 : 2 < e_n E := by rw [en]; decide
  have hn3 : 3 < e_n E := by rw [en]; decide
  have hn4 : 4 < e_n E := by rw [en]; decide
  have K2 : ∀ (n2 : Nat) (y2_2 : Int32), (10 - (y2_2).toInt).toNat < n2 → iv 1 10 y2_2 → AT E 2 [(0, .ref (e_q E 6)), (1, .int x1), (2, .int y2_2)] [] σ := by
    intro n2
    induction n2 with
    | zero => intro y2_2 hm; exact absurd hm (Nat.not_lt_zero _)
    | succ n2 ih2 =>
      intro y2_2 hm2 b2_2
      have K23 : ∀ (n23 : Nat) (y3_23 : Int32) (y4_23 : Int32), (9 - (y4_23).toInt).toNat < n23 → iv 1 9 y2_2 → iv (-2147483648) 2147483647 y3_23 → iv 0 9 y4_23 → AT E 23 [(0, .ref (e_q E 6)), (1, .int x1), (2, .int y2_2), (3, .int y3_23), (4, .int y4_23)] [] σ := by
        intro n23
        induction n23 with
        | zero => intro y3_23 y4_23 hm; exact absurd hm (Nat.not_lt_zero _)
        | succ n23 ih23 =>
          intro y3_23 y4_23 hm23 b2_23 b3_23 b4_23
          refine at_iload_n C 3 dX2_nobodyIsHeard_23 rfl ?_
          refine at_iconst C (-1 : Int32) dX2_nobodyIsHeard_24 (by decide) ?_
          refine at_icmp_eq C 66 dX2_nobodyIsHeard_25 (by decide) (fun c269 => ?_) (fun c269 => ?_)
          · have f270 : iv (-1) (-1) y3_23 := (iv_eql (iv_c (c := (-1)) (x := (-1 : Int32)) (by decide)) c269)
            refine at_iinc C (v := (y2_2 + (1 : Int32))) (lv' := [(2, .int (y2_2 + (1 : Int32))), (0, .ref (e_q E 6)), (1, .int x1), (3, .int y3_23), (4, .int y4_23)]) 2 dX2_nobodyIsHeard_66 rfl rfl hn2 rfl ?_
            refine at_goto C 2 dX2_nobodyIsHeard_69 (by decide) ?_
            exact at_sub [1, 2, 0] rfl (ih2 (y2_2 + (1 : Int32)) (mz_up hm2 (ac_ti1 b2_23 (iv_c (c := 1) (x := (1 : Int32)) (by decide)) (by decide) (by decide) (by decide)) (by decide) (iv_wk (iv_add b2_23 (iv_c (c := 1) (x := (1 : Int32)) (by decide)) (by decide) (by decide)) (by decide) (by decide) : iv 1 10 (y2_2 + (1 : Int32))).2) (iv_wk (iv_add b2_23 (iv_c (c := 1) (x := (1 : Int32)) (by decide)) (by decide) (by decide)) (by decide) (by decide) : iv 1 10 (y2_2 + (1 : Int32))))
          · refine at_iload C 4 dX2_nobodyIsHeard_28 rfl ?_
            refine at_iload_n C 2 dX2_nobodyIsHeard_30 rfl ?_
            refine at_icmp_ge C 66 dX2_nobodyIsHeard_31 (by decide) (fun c271 => ?_) (fun c271 => ?_)
            · have f272 : iv 1 9 y4_23 := (iv_ler b2_23 b4_23 c271)
              refine at_iinc C (v := (y2_2 + (1 : Int32))) (lv' := [(2, .int (y2_2 + (1 : Int32))), (0, .ref (e_q E 6)), (1, .int x1), (3, .int y3_23), (4, .int y4_23)]) 2 dX2_nobodyIsHeard_66 rfl rfl hn2 rfl ?_
              refine at_goto C 2 dX2_nobodyIsHeard_69 (by decide) ?_
              exact at_sub [1, 2, 0] rfl (ih2 (y2_2 + (1 : Int32)) (mz_up hm2 (ac_ti1 b2_23 (iv_c (c := 1) (x := (1 : Int32)) (by decide)) (by decide) (by decide) (by decide)) (by decide) (iv_wk (iv_add b2_23 (iv_c (c := 1) (x := (1 : Int32)) (by decide)) (by decide) (by decide)) (by decide) (by decide) : iv 1 10 (y2_2 + (1 : Int32))).2) (iv_wk (iv_add b2_23 (iv_c (c := 1) (x := (1 : Int32)) (by decide)) (by decide) (by decide)) (by decide) (by decide) : iv 1 10 (y2_2 + (1 : Int32))))
            · have f273 : iv 0 8 y4_23 := (iv_ltl b4_23 b2_23 (Int32.not_le.mp c271))
              refine at_aload_n C 0 dX2_nobodyIsHeard_34 rfl ?_
              refine gf_X2_21 C dX2_nobodyIsHeard_35 ?_
              refine at_iload_n C 2 dX2_nobodyIsHeard_38 rfl ?_
              refine at_iload C 4 dX2_nobodyIsHeard_39 rfl ?_
              refine at_aload_n C 0 dX2_nobodyIsHeard_41 rfl ?_
              refine at_iload C 4 dX2_nobodyIsHeard_42 rfl ?_
              refine at_iload_n C 1 dX2_nobodyIsHeard_44 rfl ?_
              refine at_Vi C (As := [.int y4_23, .int x1]) (st := [.int y4_23, .int y2_2, .ref (e_q E 1)]) (b := 6) (ci := 2) (ct_X2_channelOf σ y4_23 x1 hI) mb_X2_channelOf ml_X2_57 rfl rfl rfl (by decide) rfl (Nat.le_of_ble_eq_true rfl) dX2_nobodyIsHeard_45 ?_
              rintro r274 _ ⟨rfl, f275⟩
              refine at_Vi C (As := [.int y2_2, .int y4_23, .int r274]) (st := []) (b := 1) (ci := 0) (ct_X0_shutFor σ y2_2 y4_23 r274 hI) mb_X0_shutFor ml_X2_46 rfl rfl rfl (by decide) rfl (Nat.le_of_ble_eq_true rfl) dX2_nobodyIsHeard_48 ?_
              rintro r276 _ ⟨rfl, f277⟩
              refine at_iload_n C 3 dX2_nobodyIsHeard_51 rfl ?_
              refine at_Ni C (As := [.int r276, .int y3_23]) (st := []) (ct_X6_has σ r276 y3_23) mb_X6_has ml_X2_49 rfl (by decide) rfl (Nat.le_of_ble_eq_true rfl) dX2_nobodyIsHeard_52 ?_
              rintro _ _ ⟨rfl, ⟨rfl, c278⟩ | ⟨rfl, c278⟩⟩
              · refine at_if_eq C 60 dX2_nobodyIsHeard_55 (by decide) (fun c280 => absurd c280 (iv_xeq (iv_c (c := 1) (x := (1 : Int32)) (by decide)) (iv_c (c := 0) (x := (0 : Int32)) (by decide)) (by decide))) (fun c280 => ?_)
                refine at_iconst C (0 : Int32) dX2_nobodyIsHeard_58 (by decide) ?_
                exact hR _ _ _ _ dX2_nobodyIsHeard_59 ⟨rfl, Or.inl rfl⟩
              · refine at_if_eq C 60 dX2_nobodyIsHeard_55 (by decide) (fun c281 => ?_) (fun c281 => absurd (iv_xne (iv_c (c := 0) (x := (0 : Int32)) (by decide)) (iv_c (c := 0) (x := (0 : Int32)) (by decide))) c281)
                refine at_iinc C (v := (y4_23 + (1 : Int32))) (lv' := [(4, .int (y4_23 + (1 : Int32))), (0, .ref (e_q E 6)), (1, .int x1), (2, .int y2_2), (3, .int y3_23)]) 4 dX2_nobodyIsHeard_60 rfl rfl hn4 rfl ?_
                refine at_goto C 23 dX2_nobodyIsHeard_63 (by decide) ?_
                exact at_sub [1, 2, 3, 4, 0] rfl (ih23 y3_23 (y4_23 + (1 : Int32)) (mz_up hm23 (ac_ti1 f273 (iv_c (c := 1) (x := (1 : Int32)) (by decide)) (by decide) (by decide) (by decide)) (by decide) (iv_wk (iv_add f273 (iv_c (c := 1) (x := (1 : Int32)) (by decide)) (by decide) (by decide)) (by decide) (by decide) : iv 0 9 (y4_23 + (1 : Int32))).2) (show iv 1 9 y2_2 from b2_23) (show iv (-2147483648) 2147483647 y3_23 from b3_23) (iv_wk (iv_add f273 (iv_c (c := 1) (x := (1 : Int32)) (by decide)) (by decide) (by decide)) (by decide) (by decide) : iv 0 9 (y4_23 + (1 : Int32))))
      refine at_iload_n C 2 dX2_nobodyIsHeard_2 rfl ?_
      refine at_aload_n C 0 dX2_nobodyIsHeard_3 rfl ?_
      refine gf_X2_21 C dX2_nobodyIsHeard_4 ?_
      refine gf_X2_40 C dX2_nobodyIsHeard_7 ?_
      refine at_icmp_ge C 72 dX2_nobodyIsHeard_10 (by decide) (fun c282 => ?_) (fun c282 => ?_)
      · refine at_iconst C (1 : Int32) dX2_nobodyIsHeard_72 (by decide) ?_
        exact hR _ _ _ _ dX2_nobodyIsHeard_73 ⟨rfl, Or.inr rfl⟩
      · have f283 : iv 1 9 y2_2 := (iv_ltl b2_2 (show iv 0 10 (ac_gi σ 0) from hI.1 0) (Int32.not_le.mp c282))
        have f284 : iv 2 10 (ac_gi σ 0) := (iv_ltr b2_2 (show iv 0 10 (ac_gi σ 0) from hI.1 0) (Int32.not_le.mp c282))
        refine at_aload_n C 0 dX2_nobodyIsHeard_13 rfl ?_
        refine at_iload_n C 2 dX2_nobodyIsHeard_14 rfl ?_
        refine at_iload_n C 1 dX2_nobodyIsHeard_15 rfl ?_
        refine at_Vi C (As := [.int y2_2, .int x1]) (st := []) (b := 6) (ci := 2) (ct_X2_channelOf σ y2_2 x1 hI) mb_X2_channelOf ml_X2_57 rfl rfl rfl (by decide) rfl (Nat.le_of_ble_eq_true rfl) dX2_nobodyIsHeard_16 ?_
        rintro r285 _ ⟨rfl, f286⟩
        refine at_istore_n C (lv' := [(3, .int r285), (0, .ref (e_q E 6)), (1, .int x1), (2, .int y2_2)]) dX2_nobodyIsHeard_19 hn3 rfl ?_
        refine at_iconst C (0 : Int32) dX2_nobodyIsHeard_20 (by decide) ?_
        refine at_istore C (lv' := [(4, .int (0 : Int32)), (3, .int r285), (0, .ref (e_q E 6)), (1, .int x1), (2, .int y2_2)]) dX2_nobodyIsHeard_21 hn4 rfl ?_
        exact at_sub [2, 3, 4, 1, 0] rfl (K23 _ r285 (0 : Int32) (Nat.lt_succ_self _) (show iv 1 9 y2_2 from f283) (show iv (-2147483648) 2147483647 r285 from f286) (iv_wk (iv_c (c := 0) (x := (0 : Int32)) (by decide)) (by decide) (by decide) : iv 0 9 (0 : Int32)))
  refine at_iconst C (1 : Int32) dX2_nobodyIsHeard_0 (by decide) ?_
  refine at_istore_n C (lv' := [(2, .int (1 : Int32)), (0, .ref (e_q E 6)), (1, .int x1)]) dX2_nobodyIsHeard_1 hn2 rfl ?_
  exact at_sub [1, 2, 0] rfl (K2 _ (1 : Int32) (Nat.lt_succ_self _) (iv_wk (iv_c (c := 1) (x := (1 : Int32)) (by decide)) (by decide) (by decide) : iv 1 10 (1 : Int32)))
set_option maxHeartbeats 4000000 in
set_option maxRecDepth 100000 in
theorem ct_X2_weeksFrom (σ : SS) (x1 : Int32) (x2 : Int32) (x3 : Int32) (hI : Inv σ) (g1 : iv 0 1023 x1) (g2 : iv 0 1023 x2) : ConI yX2_weeksFrom cX2_weeksFrom 7 (some .int) 1 (some 6) [.int x1, .int x2, .int x3] σ (fun r σ' => σ = σ' ∧ iv (-2147483648) 2147483647 r) := by
  refine conI_of (by decide) (fun q => Nat.le_of_ble_eq_true rfl) (fun E C en hR => ?_)
  have hn4 : 4 < e_n E := by rw [en]; decide
  have hn5 : 5 < e_n E := by rw [en]; decide
  have hn6 : 6 < e_n E := by rw [en]; decide
  have K23 : ∀ (n23 : Nat) (y4_23 : Int32) (y5_23 : Int32) (y6_23 : Int32), ((y6_23).toInt - 0).toNat < n23 → iv 0 1023 y4_23 → iv (-2147483648) 1000 y5_23 → iv 0 1023 y6_23 → AT E 23 [(0, .ref (e_q E 6)), (1, .int x1), (3, .int x3), (4, .int y4_23), (5, .int y5_23), (6, .int y6_23)] [] σ := by
    intro n23
    induction n23 with
    | zero => intro y4_23 y5_23 y6_23 hm; exact absurd hm (Nat.not_lt_zero _)
    | succ n23 ih23 =>
      intro y4_23 y5_23 y6_23 hm23 b4_23 b5_23 b6_23
      refine at_iload C 5 dX2_weeksFrom_23 rfl ?_
      refine at_if_le C 67 dX2_weeksFrom_25 (by decide) (fun c81 => ?_) (fun c81 => ?_)
      · have f82 : iv 0 0 y6_23 := (iv_lel b6_23 (iv_c (c := 0) (x := (0 : Int32)) (by decide)) c81)
        refine at_iload C 4 dX2_weeksFrom_67 rfl ?_
        refine at_sipush C (1000 : Int32) dX2_weeksFrom_69 (by decide) ?_
        refine at_mmin C ml_X2_69 (by decide) (Nat.le_of_ble_eq_true rfl) dX2_weeksFrom_72 ?_
        exact hR _ _ _ _ dX2_weeksFrom_75 ⟨rfl, (iv_wk (iv_min b5_23 (iv_c (c := 1000) (x := (1000 : Int32)) (by decide))) (by decide) (by decide) : iv (-2147483648) 2147483647 (ac_min y5_23 (1000 : Int32)))⟩
      · have f83 : iv 1 1023 y6_23 := (iv_ltr (iv_c (c := 0) (x := (0 : Int32)) (by decide)) b6_23 (Int32.not_le.mp c81))
        refine at_iload C 5 dX2_weeksFrom_28 rfl ?_
        refine at_Si C (As := [.int y6_23]) (st := []) (ct_J6_bitCount_0f7a4 σ y6_23) mb_J6_bitCount_0f7a4 ml_X2_64 rfl (by decide) rfl (Nat.le_of_ble_eq_true rfl) dX2_weeksFrom_30 ?_
        rintro r84 _ ⟨rfl, f85, mo86⟩
        refine at_iload_n C 2 dX2_weeksFrom_33 rfl ?_
        refine at_icmp_gt C 55 dX2_weeksFrom_34 (by decide) (fun c87 => ?_) (fun c87 => ?_)
        · have f88 : iv (-2147483648) 62 x3 := (iv_ltl (iv_any x3) f85 c87)
          refine at_iload C 5 dX2_weeksFrom_55 rfl ?_
          refine at_iconst C (1 : Int32) dX2_weeksFrom_57 (by decide) ?_
          refine at_isub C dX2_weeksFrom_58 ?_
          refine at_iload C 3 dX2_weeksFrom_59 rfl ?_
          refine at_iand C dX2_weeksFrom_61 ?_
          refine at_istore C (lv' := [(6, .int ((y6_23 - (1 : Int32)) &&& y4_23)), (0, .ref (e_q E 6)), (1, .int x1), (3, .int x3), (4, .int y4_23), (5, .int y5_23)]) dX2_weeksFrom_62 hn6 rfl ?_
          refine at_goto C 23 dX2_weeksFrom_64 (by decide) ?_
          exact at_sub [1, 2, 3, 4, 5, 0] rfl (ih23 y4_23 y5_23 ((y6_23 - (1 : Int32)) &&& y4_23) (mz_dn hm23 (mz_and f83 (by decide)) (iv_wk (iv_andl (iv_sub f83 (iv_c (c := 1) (x := (1 : Int32)) (by decide)) (by decide) (by decide))) (by decide) (by decide) : iv 0 1023 ((y6_23 - (1 : Int32)) &&& y4_23)).1) (show iv 0 1023 y4_23 from b4_23) (show iv (-2147483648) 1000 y5_23 from b5_23) (iv_wk (iv_andl (iv_sub f83 (iv_c (c := 1) (x := (1 : Int32)) (by decide)) (by decide) (by decide))) (by decide) (by decide) : iv 0 1023 ((y6_23 - (1 : Int32)) &&& y4_23)))
        · have f89 : iv 0 2147483647 x3 := (iv_ler f85 (iv_any x3) (Int32.not_lt.mp c87))
          refine at_iload C 4 dX2_weeksFrom_37 rfl ?_
          refine at_aload_n C 0 dX2_weeksFrom_39 rfl ?_
          refine gf_X2_18 C dX2_weeksFrom_40 ?_
          refine at_iload_n C 1 dX2_weeksFrom_43 rfl ?_
          refine at_iload C 5 dX2_weeksFrom_44 rfl ?_
          refine at_ior C dX2_weeksFrom_46 ?_
          refine at_iald C (c := 29) rfl (iv_in (n := 1024) (iv_or 10 g1 (iv_wk (c := 0) f83 (by decide) (Int.le_refl _)) (by decide) (by decide) (by decide)) (by decide) (by decide)) dX2_weeksFrom_47 ?_
          refine at_iconst C (1 : Int32) dX2_weeksFrom_48 (by decide) ?_
          refine at_iadd C dX2_weeksFrom_49 ?_
          refine at_mmin C ml_X2_69 (by decide) (Nat.le_of_ble_eq_true rfl) dX2_weeksFrom_50 ?_
          refine at_istore C (lv' := [(5, .int (ac_min y5_23 ((ac_ga σ 29 ((x1 ||| y6_23)).toNatClampNeg) + (1 : Int32)))), (0, .ref (e_q E 6)), (1, .int x1), (3, .int x3), (4, .int y4_23), (6, .int y6_23)]) dX2_weeksFrom_53 hn5 rfl ?_
          refine at_iload C 5 dX2_weeksFrom_55 rfl ?_
          refine at_iconst C (1 : Int32) dX2_weeksFrom_57 (by decide) ?_
          refine at_isub C dX2_weeksFrom_58 ?_
          refine at_iload C 4 dX2_weeksFrom_59 rfl ?_
          refine at_iand C dX2_weeksFrom_61 ?_
          refine at_istore C (lv' := [(6, .int ((y6_23 - (1 : Int32)) &&& y4_23)), (5, .int (ac_min y5_23 ((ac_ga σ 29 ((x1 ||| y6_23)).toNatClampNeg) + (1 : Int32)))), (0, .ref (e_q E 6)), (1, .int x1), (3, .int x3), (4, .int y4_23)]) dX2_weeksFrom_62 hn6 rfl ?_
          refine at_goto C 23 dX2_weeksFrom_64 (by decide) ?_
          exact at_sub [2, 3, 4, 5, 1, 0] rfl (ih23 y4_23 (ac_min y5_23 ((ac_ga σ 29 ((x1 ||| y6_23)).toNatClampNeg) + (1 : Int32))) ((y6_23 - (1 : Int32)) &&& y4_23) (mz_dn hm23 (mz_and f83 (by decide)) (iv_wk (iv_andl (iv_sub f83 (iv_c (c := 1) (x := (1 : Int32)) (by decide)) (by decide) (by decide))) (by decide) (by decide) : iv 0 1023 ((y6_23 - (1 : Int32)) &&& y4_23)).1) (show iv 0 1023 y4_23 from b4_23) (show iv (-2147483648) 1000 (ac_min y5_23 ((ac_ga σ 29 ((x1 ||| y6_23)).toNatClampNeg) + (1 : Int32))) from (iv_min b5_23 (iv_any ((ac_ga σ 29 ((x1 ||| y6_23)).toNatClampNeg) + (1 : Int32))))) (iv_wk (iv_andl (iv_sub f83 (iv_c (c := 1) (x := (1 : Int32)) (by decide)) (by decide) (by decide))) (by decide) (by decide) : iv 0 1023 ((y6_23 - (1 : Int32)) &&& y4_23)))
  refine at_iload_n C 1 dX2_weeksFrom_0 rfl ?_
  refine at_iload_n C 2 dX2_weeksFrom_1 rfl ?_
  refine at_icmp_ne C 7 dX2_weeksFrom_2 (by decide) (fun c90 => ?_) (fun c90 => ?_)
  · refine at_iload_n C 2 dX2_weeksFrom_7 rfl ?_
    refine at_iload_n C 1 dX2_weeksFrom_8 rfl ?_
    refine at_iconst C (-1 : Int32) dX2_weeksFrom_9 (by decide) ?_
    refine at_ixor C dX2_weeksFrom_10 ?_
    refine at_iand C dX2_weeksFrom_11 ?_
    refine at_istore C (lv' := [(4, .int (x2 &&& (x1 ^^^ (-1 : Int32)))), (0, .ref (e_q E 6)), (1, .int x1), (2, .int x2), (3, .int x3)]) dX2_weeksFrom_12 hn4 rfl ?_
    refine at_sipush C (1000 : Int32) dX2_weeksFrom_14 (by decide) ?_
    refine at_istore C (lv' := [(5, .int (1000 : Int32)), (4, .int (x2 &&& (x1 ^^^ (-1 : Int32)))), (0, .ref (e_q E 6)), (1, .int x1), (2, .int x2), (3, .int x3)]) dX2_weeksFrom_17 hn5 rfl ?_
    refine at_iload C 1 dX2_weeksFrom_19 rfl ?_
    refine at_istore C (lv' := [(6, .int (x2 &&& (x1 ^^^ (-1 : Int32)))), (5, .int (1000 : Int32)), (4, .int (x2 &&& (x1 ^^^ (-1 : Int32)))), (0, .ref (e_q E 6)), (1, .int x1), (2, .int x2), (3, .int x3)]) dX2_weeksFrom_21 hn6 rfl ?_
    exact at_sub [3, 4, 6, 2, 1, 0] rfl (K23 _ (x2 &&& (x1 ^^^ (-1 : Int32))) (1000 : Int32) (x2 &&& (x1 ^^^ (-1 : Int32))) (Nat.lt_succ_self _) (show iv 0 1023 (x2 &&& (x1 ^^^ (-1 : Int32))) from (iv_andl g2)) (iv_wk (iv_c (c := 1000) (x := (1000 : Int32)) (by decide)) (by decide) (by decide) : iv (-2147483648) 1000 (1000 : Int32)) (show iv 0 1023 (x2 &&& (x1 ^^^ (-1 : Int32))) from (iv_andl g2)))
  · refine at_iconst C (0 : Int32) dX2_weeksFrom_5 (by decide) ?_
    exact hR _ _ _ _ dX2_weeksFrom_6 ⟨rfl, (iv_wk (iv_c (c := 0) (x := (0 : Int32)) (by decide)) (by decide) (by decide) : iv (-2147483648) 2147483647 (0 : Int32))⟩
set_option maxHeartbeats 4000000 in
set_option maxRecDepth 100000 in
theorem ct_X2_firstStep (σ : SS) (x1 : Int32) (x2 : Int32) (x3 : Int32) (hI : Inv σ) (g1 : iv 0 1023 x1) (g2 : iv 0 1023 x2) : ConI yX2_firstStep cX2_firstStep 5 (some .int) 1 (some 6) [.int x1, .int x2, .int x3] σ (fun r σ' => σ = σ' ∧ iv 0 1023 r) := by
  refine conI_of (by decide) (fun q => Nat.le_of_ble_eq_true rfl) (fun E C en hR => ?_)
  have hn4 : 4 < e_n E := by rw [en]; decide
  have K3 : ∀ (n3 : Nat) (y4_3 : Int32), (1024 - (y4_3).toInt).toNat < n3 → iv 1 1024 y4_3 → AT E 3 [(0, .ref (e_q E 6)), (1, .int x1), (2, .int x2), (3, .int x3), (4, .int y4_3)] [] σ := by
    intro n3
    induction n3 with
    | zero => intro y4_3 hm; exact absurd hm (Nat.not_lt_zero _)
    | succ n3 ih3 =>
      intro y4_3 hm3 b4_3
      refine at_iload C 4 dX2_firstStep_3 rfl ?_
      refine at_iload_n C 2 dX2_firstStep_5 rfl ?_
      refine at_icmp_gt C 56 dX2_firstStep_6 (by decide) (fun c443 => ?_) (fun c443 => ?_)
      · refine at_iconst C (0 : Int32) dX2_firstStep_56 (by decide) ?_
        exact hR _ _ _ _ dX2_firstStep_57 ⟨rfl, (iv_wk (iv_c (c := 0) (x := (0 : Int32)) (by decide)) (by decide) (by decide) : iv 0 1023 (0 : Int32))⟩
      · have f444 : iv 1 1023 y4_3 := (iv_lel b4_3 g2 (Int32.not_lt.mp c443))
        have f445 : iv 1 1023 x2 := (iv_ler b4_3 g2 (Int32.not_lt.mp c443))
        refine at_iload C 4 dX2_firstStep_9 rfl ?_
        refine at_iload_n C 2 dX2_firstStep_11 rfl ?_
        refine at_iconst C (-1 : Int32) dX2_firstStep_12 (by decide) ?_
        refine at_ixor C dX2_firstStep_13 ?_
        refine at_iand C dX2_firstStep_14 ?_
        refine at_if_ne C 50 dX2_firstStep_15 (by decide) (fun c446 => ?_) (fun c446 => ?_)
        · have f447 : iv 1 1023 (y4_3 &&& (x2 ^^^ (-1 : Int32))) := (iv_nel (iv_andl (iv_wk (c := 0) f444 (by decide) (Int.le_refl _))) (by decide) c446)
          refine at_iinc C (v := (y4_3 + (1 : Int32))) (lv' := [(4, .int (y4_3 + (1 : Int32))), (0, .ref (e_q E 6)), (1, .int x1), (2, .int x2), (3, .int x3)]) 4 dX2_firstStep_50 rfl rfl hn4 rfl ?_
          refine at_goto C 3 dX2_firstStep_53 (by decide) ?_
          exact at_sub [1, 2, 3, 4, 0] rfl (ih3 (y4_3 + (1 : Int32)) (mz_up hm3 (ac_ti1 f444 (iv_c (c := 1) (x := (1 : Int32)) (by decide)) (by decide) (by decide) (by decide)) (by decide) (iv_wk (iv_add f444 (iv_c (c := 1) (x := (1 : Int32)) (by decide)) (by decide) (by decide)) (by decide) (by decide) : iv 1 1024 (y4_3 + (1 : Int32))).2) (iv_wk (iv_add f444 (iv_c (c := 1) (x := (1 : Int32)) (by decide)) (by decide) (by decide)) (by decide) (by decide) : iv 1 1024 (y4_3 + (1 : Int32))))
        · have f448 : iv 0 0 (y4_3 &&& (x2 ^^^ (-1 : Int32))) := (iv_eql (iv_c (c := 0) (x := (0 : Int32)) (by decide)) c446)
          refine at_iload C 4 dX2_firstStep_18 rfl ?_
          refine at_Si C (As := [.int y4_3]) (st := []) (ct_J6_bitCount_0f7a4 σ y4_3) mb_J6_bitCount_0f7a4 ml_X2_64 rfl (by decide) rfl (Nat.le_of_ble_eq_true rfl) dX2_firstStep_20 ?_
          rintro r449 _ ⟨rfl, f450, mo451⟩
          refine at_iload_n C 3 dX2_firstStep_23 rfl ?_
          refine at_icmp_gt C 50 dX2_firstStep_24 (by decide) (fun c452 => ?_) (fun c452 => ?_)
          · have f453 : iv (-2147483648) 62 x3 := (iv_ltl (iv_any x3) f450 c452)
            refine at_iinc C (v := (y4_3 + (1 : Int32))) (lv' := [(4, .int (y4_3 + (1 : Int32))), (0, .ref (e_q E 6)), (1, .int x1), (2, .int x2), (3, .int x3)]) 4 dX2_firstStep_50 rfl rfl hn4 rfl ?_
            refine at_goto C 3 dX2_firstStep_53 (by decide) ?_
            exact at_sub [1, 2, 3, 4, 0] rfl (ih3 (y4_3 + (1 : Int32)) (mz_up hm3 (ac_ti1 f444 (iv_c (c := 1) (x := (1 : Int32)) (by decide)) (by decide) (by decide) (by decide)) (by decide) (iv_wk (iv_add f444 (iv_c (c := 1) (x := (1 : Int32)) (by decide)) (by decide) (by decide)) (by decide) (by decide) : iv 1 1024 (y4_3 + (1 : Int32))).2) (iv_wk (iv_add f444 (iv_c (c := 1) (x := (1 : Int32)) (by decide)) (by decide) (by decide)) (by decide) (by decide) : iv 1 1024 (y4_3 + (1 : Int32))))
          · have f454 : iv 0 2147483647 x3 := (iv_ler f450 (iv_any x3) (Int32.not_lt.mp c452))
            refine at_aload_n C 0 dX2_firstStep_27 rfl ?_
            refine gf_X2_18 C dX2_firstStep_28 ?_
            refine at_iload_n C 1 dX2_firstStep_31 rfl ?_
            refine at_iload C 4 dX2_firstStep_32 rfl ?_
            refine at_ior C dX2_firstStep_34 ?_
            refine at_iald C (c := 29) rfl (iv_in (n := 1024) (iv_or 10 g1 (iv_wk (c := 0) f444 (by decide) (Int.le_refl _)) (by decide) (by decide) (by decide)) (by decide) (by decide)) dX2_firstStep_35 ?_
            refine at_iconst C (1 : Int32) dX2_firstStep_36 (by decide) ?_
            refine at_iadd C dX2_firstStep_37 ?_
            refine at_aload_n C 0 dX2_firstStep_38 rfl ?_
            refine gf_X2_18 C dX2_firstStep_39 ?_
            refine at_iload_n C 1 dX2_firstStep_42 rfl ?_
            refine at_iald C (c := 29) rfl (iv_in (n := 1024) g1 (by decide) (by decide)) dX2_firstStep_43 ?_
            refine at_icmp_ne C 50 dX2_firstStep_44 (by decide) (fun c455 => ?_) (fun c455 => ?_)
            · refine at_iinc C (v := (y4_3 + (1 : Int32))) (lv' := [(4, .int (y4_3 + (1 : Int32))), (0, .ref (e_q E 6)), (1, .int x1), (2, .int x2), (3, .int x3)]) 4 dX2_firstStep_50 rfl rfl hn4 rfl ?_
              refine at_goto C 3 dX2_firstStep_53 (by decide) ?_
              exact at_sub [1, 2, 3, 4, 0] rfl (ih3 (y4_3 + (1 : Int32)) (mz_up hm3 (ac_ti1 f444 (iv_c (c := 1) (x := (1 : Int32)) (by decide)) (by decide) (by decide) (by decide)) (by decide) (iv_wk (iv_add f444 (iv_c (c := 1) (x := (1 : Int32)) (by decide)) (by decide) (by decide)) (by decide) (by decide) : iv 1 1024 (y4_3 + (1 : Int32))).2) (iv_wk (iv_add f444 (iv_c (c := 1) (x := (1 : Int32)) (by decide)) (by decide) (by decide)) (by decide) (by decide) : iv 1 1024 (y4_3 + (1 : Int32))))
            · refine at_iload C 4 dX2_firstStep_47 rfl ?_
              exact hR _ _ _ _ dX2_firstStep_49 ⟨rfl, (iv_wk f444 (by decide) (by decide) : iv 0 1023 y4_3)⟩
  refine at_iconst C (1 : Int32) dX2_firstStep_0 (by decide) ?_
  refine at_istore C (lv' := [(4, .int (1 : Int32)), (0, .ref (e_q E 6)), (1, .int x1), (2, .int x2), (3, .int x3)]) dX2_firstStep_1 hn4 rfl ?_
  exact at_sub [1, 2, 3, 4, 0] rfl (K3 _ (1 : Int32) (Nat.lt_succ_self _) (iv_wk (iv_c (c := 1) (x := (1 : Int32)) (by decide)) (by decide) (by decide) : iv 1 1024 (1 : Int32)))
set_option maxHeartbeats 4000000 in
set_option maxRecDepth 100000 in
theorem ct_X2_fewestWeeks (σ : SS) (x1 : Int32) (hI : Inv σ) : ConI yX2_fewestWeeks cX2_fewestWeeks 4 (some .int) 3 (some 6) [.int x1] σ (fun r σ' => Gd σ σ' ∧ iv (-2147483648) 2147483647 r) := by
  refine conI_of (by decide) (fun q => Nat.le_of_ble_eq_true rfl) (fun E C en hR => ?_)
  have hn2 : 2 < e_n E := by rw [en]; decide
  have hn3 : 3 < e_n E := by rw [en]; decide
  have hG0 : Gd σ σ := Gd.rf hI
  have K7 : ∀ (n7 : Nat) (y2_7 : Int32) (y3_7 : Int32) (s7 : SS), ((y3_7).toInt - (-1)).toNat < n7 → iv 0 1023 y2_7 → iv (-1) 1023 y3_7 → Gd σ s7 → AT E 7 [(0, .ref (e_q E 6)), (1, .int x1), (2, .int y2_7), (3, .int y3_7)] [] s7 := by
    intro n7
    induction n7 with
    | zero => intro y2_7 y3_7 s7 hm; exact absurd hm (Nat.not_lt_zero _)
    | succ n7 ih7 =>
      intro y2_7 y3_7 s7 hm7 b2_7 b3_7 hG_7
      refine at_iload_n C 3 dX2_fewestWeeks_7 rfl ?_
      refine at_if_lt C 52 dX2_fewestWeeks_8 (by decide) (fun c135 => ?_) (fun c135 => ?_)
      · have f136 : iv (-1) (-1) y3_7 := (iv_ltl b3_7 (iv_c (c := 0) (x := (0 : Int32)) (by decide)) c135)
        refine at_aload_n C 0 dX2_fewestWeeks_52 rfl ?_
        refine gf_X2_18 C dX2_fewestWeeks_53 ?_
        refine at_iconst C (0 : Int32) dX2_fewestWeeks_56 (by decide) ?_
        refine at_iald C (c := 29) rfl (iv_in (n := 1024) (iv_c (c := 0) (x := (0 : Int32)) (by decide)) (by decide) (by decide)) dX2_fewestWeeks_57 ?_
        exact hR _ _ _ _ dX2_fewestWeeks_58 ⟨hG_7, (show iv (-2147483648) 2147483647 (ac_ga s7 29 ((0 : Int32)).toNatClampNeg) from (iv_any (ac_ga s7 29 ((0 : Int32)).toNatClampNeg)))⟩
      · have f137 : iv 0 1023 y3_7 := (iv_ler (iv_c (c := 0) (x := (0 : Int32)) (by decide)) b3_7 (Int32.not_lt.mp c135))
        refine at_iload_n C 3 dX2_fewestWeeks_11 rfl ?_
        refine at_iload_n C 2 dX2_fewestWeeks_12 rfl ?_
        refine at_iconst C (-1 : Int32) dX2_fewestWeeks_13 (by decide) ?_
        refine at_ixor C dX2_fewestWeeks_14 ?_
        refine at_iand C dX2_fewestWeeks_15 ?_
        refine at_if_ne C 46 dX2_fewestWeeks_16 (by decide) (fun c138 => ?_) (fun c138 => ?_)
        · have f139 : iv 1 1023 (y3_7 &&& (y2_7 ^^^ (-1 : Int32))) := (iv_nel (iv_andl f137) (by decide) c138)
          refine at_iinc C (v := (y3_7 + (-1 : Int32))) (lv' := [(3, .int (y3_7 + (-1 : Int32))), (0, .ref (e_q E 6)), (1, .int x1), (2, .int y2_7)]) 3 dX2_fewestWeeks_46 rfl rfl hn3 rfl ?_
          refine at_goto C 7 dX2_fewestWeeks_49 (by decide) ?_
          exact at_sub [1, 2, 3, 0] rfl (ih7 y2_7 (y3_7 + (-1 : Int32)) s7 (mz_dn hm7 (mz_m1 f137 (by decide)) (iv_wk (iv_add f137 (iv_c (c := (-1)) (x := (-1 : Int32)) (by decide)) (by decide) (by decide)) (by decide) (by decide) : iv (-1) 1023 (y3_7 + (-1 : Int32))).1) (show iv 0 1023 y2_7 from b2_7) (iv_wk (iv_add f137 (iv_c (c := (-1)) (x := (-1 : Int32)) (by decide)) (by decide) (by decide)) (by decide) (by decide) : iv (-1) 1023 (y3_7 + (-1 : Int32))) hG_7)
        · have f140 : iv 0 0 (y3_7 &&& (y2_7 ^^^ (-1 : Int32))) := (iv_eql (iv_c (c := 0) (x := (0 : Int32)) (by decide)) c138)
          refine at_aload_n C 0 dX2_fewestWeeks_19 rfl ?_
          refine gf_X2_18 C dX2_fewestWeeks_20 ?_
          refine at_iload_n C 3 dX2_fewestWeeks_23 rfl ?_
          refine at_aload_n C 0 dX2_fewestWeeks_24 rfl ?_
          refine at_iload_n C 3 dX2_fewestWeeks_25 rfl ?_
          refine at_Vi C (As := [.int y3_7]) (st := [.int y3_7, .ref (e_q E 29)]) (b := 6) (ci := 2) (ct_X2_nobodyIsHeard s7 y3_7 hG_7.1) mb_X2_nobodyIsHeard ml_X2_29 rfl rfl rfl (by decide) rfl (Nat.le_of_ble_eq_true rfl) dX2_fewestWeeks_26 ?_
          rintro _ _ ⟨rfl, rfl | rfl⟩
          · refine at_if_eq C 42 dX2_fewestWeeks_29 (by decide) (fun c144 => ?_) (fun c144 => absurd (iv_xne (iv_c (c := 0) (x := (0 : Int32)) (by decide)) (iv_c (c := 0) (x := (0 : Int32)) (by decide))) c144)
            refine at_sipush C (1000 : Int32) dX2_fewestWeeks_42 (by decide) ?_
            refine at_iast C (c := 29) rfl (fun f => ac_ast_29 _ _ _ _ f) (iv_in (n := 1024) f137 (by decide) (by decide)) dX2_fewestWeeks_45 ?_
            have hG145 := Gd.sa (c := 29) (i := (y3_7).toNatClampNeg) hG_7 rfl (iv_wk (iv_c (c := 1000) (x := (1000 : Int32)) (by decide)) (by decide) (by decide) : iv (-2147483648) 2147483647 (1000 : Int32))
            refine at_iinc C (v := (y3_7 + (-1 : Int32))) (lv' := [(3, .int (y3_7 + (-1 : Int32))), (0, .ref (e_q E 6)), (1, .int x1), (2, .int y2_7)]) 3 dX2_fewestWeeks_46 rfl rfl hn3 rfl ?_
            refine at_goto C 7 dX2_fewestWeeks_49 (by decide) ?_
            exact at_sub [1, 2, 3, 0] rfl (ih7 y2_7 (y3_7 + (-1 : Int32)) (ac_sa s7 29 (upd (ac_ga s7 29) (y3_7).toNatClampNeg (1000 : Int32))) (mz_dn hm7 (mz_m1 f137 (by decide)) (iv_wk (iv_add f137 (iv_c (c := (-1)) (x := (-1 : Int32)) (by decide)) (by decide) (by decide)) (by decide) (by decide) : iv (-1) 1023 (y3_7 + (-1 : Int32))).1) (show iv 0 1023 y2_7 from b2_7) (iv_wk (iv_add f137 (iv_c (c := (-1)) (x := (-1 : Int32)) (by decide)) (by decide) (by decide)) (by decide) (by decide) : iv (-1) 1023 (y3_7 + (-1 : Int32))) hG145)
          · refine at_if_eq C 42 dX2_fewestWeeks_29 (by decide) (fun c146 => absurd c146 (iv_xeq (iv_c (c := 1) (x := (1 : Int32)) (by decide)) (iv_c (c := 0) (x := (0 : Int32)) (by decide)) (by decide))) (fun c146 => ?_)
            refine at_aload_n C 0 dX2_fewestWeeks_32 rfl ?_
            refine at_iload_n C 3 dX2_fewestWeeks_33 rfl ?_
            refine at_iload_n C 2 dX2_fewestWeeks_34 rfl ?_
            refine at_iload_n C 1 dX2_fewestWeeks_35 rfl ?_
            refine at_Vi C (As := [.int y3_7, .int y2_7, .int x1]) (st := [.int y3_7, .ref (e_q E 29)]) (b := 6) (ci := 2) (ct_X2_weeksFrom s7 y3_7 y2_7 x1 hG_7.1 (show iv 0 1023 y3_7 from f137) (show iv 0 1023 y2_7 from b2_7)) mb_X2_weeksFrom ml_X2_33 rfl rfl rfl (by decide) rfl (Nat.le_of_ble_eq_true rfl) dX2_fewestWeeks_36 ?_
            rintro r147 _ ⟨rfl, f148⟩
            refine at_goto C 45 dX2_fewestWeeks_39 (by decide) ?_
            refine at_iast C (c := 29) rfl (fun f => ac_ast_29 _ _ _ _ f) (iv_in (n := 1024) f137 (by decide) (by decide)) dX2_fewestWeeks_45 ?_
            have hG149 := Gd.sa (c := 29) (i := (y3_7).toNatClampNeg) hG_7 rfl (show iv (-2147483648) 2147483647 r147 from f148)
            refine at_iinc C (v := (y3_7 + (-1 : Int32))) (lv' := [(3, .int (y3_7 + (-1 : Int32))), (0, .ref (e_q E 6)), (1, .int x1), (2, .int y2_7)]) 3 dX2_fewestWeeks_46 rfl rfl hn3 rfl ?_
            refine at_goto C 7 dX2_fewestWeeks_49 (by decide) ?_
            exact at_sub [1, 2, 3, 0] rfl (ih7 y2_7 (y3_7 + (-1 : Int32)) (ac_sa s7 29 (upd (ac_ga s7 29) (y3_7).toNatClampNeg r147)) (mz_dn hm7 (mz_m1 f137 (by decide)) (iv_wk (iv_add f137 (iv_c (c := (-1)) (x := (-1 : Int32)) (by decide)) (by decide) (by decide)) (by decide) (by decide) : iv (-1) 1023 (y3_7 + (-1 : Int32))).1) (show iv 0 1023 y2_7 from b2_7) (iv_wk (iv_add f137 (iv_c (c := (-1)) (x := (-1 : Int32)) (by decide)) (by decide) (by decide)) (by decide) (by decide) : iv (-1) 1023 (y3_7 + (-1 : Int32))) hG149)
  refine at_aload_n C 0 dX2_fewestWeeks_0 rfl ?_
  refine at_Vi C (As := []) (st := []) (b := 6) (ci := 2) (ct_X2_toMove σ hI) mb_X2_toMove ml_X2_25 rfl rfl rfl (by decide) rfl (Nat.le_of_ble_eq_true rfl) dX2_fewestWeeks_1 ?_
  rintro r150 _ ⟨rfl, f151⟩
  refine at_istore_n C (lv' := [(2, .int r150), (0, .ref (e_q E 6)), (1, .int x1)]) dX2_fewestWeeks_4 hn2 rfl ?_
  refine at_iload_n C 0 dX2_fewestWeeks_5 rfl ?_
  refine at_istore_n C (lv' := [(3, .int r150), (2, .int r150), (0, .ref (e_q E 6)), (1, .int x1)]) dX2_fewestWeeks_6 hn3 rfl ?_
  exact at_sub [2, 3, 1, 0] rfl (K7 _ r150 r150 σ (Nat.lt_succ_self _) (show iv 0 1023 r150 from f151) (iv_wk f151 (by decide) (by decide) : iv (-1) 1023 r150) hG0)
set_option maxHeartbeats 4000000 in
set_option maxRecDepth 100000 in
theorem ct_X2_movedIn (σ : SS) (x1 : Int32) (x2 : Int32) (hI : Inv σ) : ConI yX2_movedIn cX2_movedIn 7 (some .int) 2 (some 6) [.int x1, .int x2] σ (fun r σ' => σ = σ' ∧ iv (-2147483648) 2147483647 r) := by
  refine conI_of (by decide) (fun q => Nat.le_of_ble_eq_true rfl) (fun E C en hR => ?_)
  have hn3 : 3 < e_n E := by rw [en]; decide
  have hn4 : 4 < e_n E := by rw [en]; decide
  have hn5 : 5 < e_n E := by rw [en]; decide
  have hn6 : 6 < e_n E := by rw [en]; decide
  have K14 : ∀ (n14 : Nat) (y3_14 : Int32) (y4_14 : Int32) (y5_14 : Int32) (y6_14 : Int32), (10 - (y6_14).toInt).toNat < n14 → iv 0 1023 y3_14 → iv 0 1023 y4_14 → iv 0 1023 y5_14 → iv 0 10 y6_14 → AT E 14 [(0, .ref (e_q E 6)), (1, .int x1), (2, .int x2), (3, .int y3_14), (4, .int y4_14), (5, .int y5_14), (6, .int y6_14)] [] σ := by
    intro n14
    induction n14 with
    | zero => intro y3_14 y4_14 y5_14 y6_14 hm; exact absurd hm (Nat.not_lt_zero _)
    | succ n14 ih14 =>
      intro y3_14 y4_14 y5_14 y6_14 hm14 b3_14 b4_14 b5_14 b6_14
      refine at_iload C 6 dX2_movedIn_14 rfl ?_
      refine at_iload_n C 1 dX2_movedIn_16 rfl ?_
      refine at_icmp_gt C 55 dX2_movedIn_17 (by decide) (fun c135 => ?_) (fun c135 => ?_)
      · have f136 : iv (-2147483648) 9 x1 := (iv_ltl (iv_any x1) b6_14 c135)
        refine at_iload C 5 dX2_movedIn_55 rfl ?_
        exact hR _ _ _ _ dX2_movedIn_57 ⟨rfl, (iv_wk b5_14 (by decide) (by decide) : iv (-2147483648) 2147483647 y5_14)⟩
      · have f137 : iv 0 2147483647 x1 := (iv_ler b6_14 (iv_any x1) (Int32.not_lt.mp c135))
        refine at_iload C 6 dX2_movedIn_20 rfl ?_
        refine at_bipush C (10 : Int32) dX2_movedIn_22 (by decide) ?_
        refine at_icmp_ge C 55 dX2_movedIn_24 (by decide) (fun c138 => ?_) (fun c138 => ?_)
        · have f139 : iv 10 10 y6_14 := (iv_ler (iv_c (c := 10) (x := (10 : Int32)) (by decide)) b6_14 c138)
          refine at_iload C 5 dX2_movedIn_55 rfl ?_
          exact hR _ _ _ _ dX2_movedIn_57 ⟨rfl, (iv_wk b5_14 (by decide) (by decide) : iv (-2147483648) 2147483647 y5_14)⟩
        · have f140 : iv 0 9 y6_14 := (iv_ltl b6_14 (iv_c (c := 10) (x := (10 : Int32)) (by decide)) (Int32.not_le.mp c138))
          refine at_aload_n C 0 dX2_movedIn_27 rfl ?_
          refine at_iload C 4 dX2_movedIn_28 rfl ?_
          refine at_iload_n C 3 dX2_movedIn_30 rfl ?_
          refine at_iload C 4 dX2_movedIn_31 rfl ?_
          refine at_iconst C (-1 : Int32) dX2_movedIn_33 (by decide) ?_
          refine at_ixor C dX2_movedIn_34 ?_
          refine at_iand C dX2_movedIn_35 ?_
          refine at_iload_n C 2 dX2_movedIn_36 rfl ?_
          refine at_Vi C (As := [.int y4_14, .int (y3_14 &&& (y4_14 ^^^ (-1 : Int32))), .int x2]) (st := []) (b := 6) (ci := 2) (ct_X2_firstStep σ y4_14 (y3_14 &&& (y4_14 ^^^ (-1 : Int32))) x2 hI (show iv 0 1023 y4_14 from b4_14) (show iv 0 1023 (y3_14 &&& (y4_14 ^^^ (-1 : Int32))) from (iv_andl b3_14))) mb_X2_firstStep ml_X2_37 rfl rfl rfl (by decide) rfl (Nat.le_of_ble_eq_true rfl) dX2_movedIn_37 ?_
          rintro r141 _ ⟨rfl, f142⟩
          refine at_istore C (lv' := [(5, .int r141), (0, .ref (e_q E 6)), (1, .int x1), (2, .int x2), (3, .int y3_14), (4, .int y4_14), (6, .int y6_14)]) dX2_movedIn_40 hn5 rfl ?_
          refine at_iload C 5 dX2_movedIn_42 rfl ?_
          refine at_iload C 0 dX2_movedIn_44 rfl ?_
          refine at_ior C dX2_movedIn_46 ?_
          refine at_istore C (lv' := [(4, .int (y4_14 ||| r141)), (5, .int r141), (0, .ref (e_q E 6)), (1, .int x1), (2, .int x2), (3, .int y3_14), (6, .int y6_14)]) dX2_movedIn_47 hn4 rfl ?_
          refine at_iinc C (v := (y6_14 + (1 : Int32))) (lv' := [(6, .int (y6_14 + (1 : Int32))), (4, .int (y4_14 ||| r141)), (5, .int r141), (0, .ref (e_q E 6)), (1, .int x1), (2, .int x2), (3, .int y3_14)]) 6 dX2_movedIn_49 rfl rfl hn6 rfl ?_
          refine at_goto C 14 dX2_movedIn_52 (by decide) ?_
          exact at_sub [3, 4, 5, 6, 1, 2, 0] rfl (ih14 y3_14 (y4_14 ||| r141) r141 (y6_14 + (1 : Int32)) (mz_up hm14 (ac_ti1 f140 (iv_c (c := 1) (x := (1 : Int32)) (by decide)) (by decide) (by decide) (by decide)) (by decide) (iv_wk (iv_add f140 (iv_c (c := 1) (x := (1 : Int32)) (by decide)) (by decide) (by decide)) (by decide) (by decide) : iv 0 10 (y6_14 + (1 : Int32))).2) (show iv 0 1023 y3_14 from b3_14) (show iv 0 1023 (y4_14 ||| r141) from (iv_or 10 b4_14 f142 (by decide) (by decide) (by decide))) (show iv 0 1023 r141 from f142) (iv_wk (iv_add f140 (iv_c (c := 1) (x := (1 : Int32)) (by decide)) (by decide) (by decide)) (by decide) (by decide) : iv 0 10 (y6_14 + (1 : Int32))))
  refine at_aload_n C 0 dX2_movedIn_0 rfl ?_
  refine at_Vi C (As := []) (st := []) (b := 6) (ci := 2) (ct_X2_toMove σ hI) mb_X2_toMove ml_X2_25 rfl rfl rfl (by decide) rfl (Nat.le_of_ble_eq_true rfl) dX2_movedIn_1 ?_
  rintro r143 _ ⟨rfl, f144⟩
  refine at_istore_n C (lv' := [(3, .int r143), (0, .ref (e_q E 6)), (1, .int x1), (2, .int x2)]) dX2_movedIn_4 hn3 rfl ?_
  refine at_iconst C (0 : Int32) dX2_movedIn_5 (by decide) ?_
  refine at_istore C (lv' := [(4, .int (0 : Int32)), (3, .int r143), (0, .ref (e_q E 6)), (1, .int x1), (2, .int x2)]) dX2_movedIn_6 hn4 rfl ?_
  refine at_iconst C (0 : Int32) dX2_movedIn_8 (by decide) ?_
  refine at_istore C (lv' := [(5, .int (0 : Int32)), (4, .int (0 : Int32)), (3, .int r143), (0, .ref (e_q E 6)), (1, .int x1), (2, .int x2)]) dX2_movedIn_9 hn5 rfl ?_
  refine at_iconst C (0 : Int32) dX2_movedIn_11 (by decide) ?_
  refine at_istore C (lv' := [(6, .int (0 : Int32)), (5, .int (0 : Int32)), (4, .int (0 : Int32)), (3, .int r143), (0, .ref (e_q E 6)), (1, .int x1), (2, .int x2)]) dX2_movedIn_12 hn6 rfl ?_
  exact at_sub [4, 5, 6, 3, 2, 1, 0] rfl (K14 _ r143 (0 : Int32) (0 : Int32) (0 : Int32) (Nat.lt_succ_self _) (show iv 0 1023 r143 from f144) (iv_wk (iv_c (c := 0) (x := (0 : Int32)) (by decide)) (by decide) (by decide) : iv 0 1023 (0 : Int32)) (iv_wk (iv_c (c := 0) (x := (0 : Int32)) (by decide)) (by decide) (by decide) : iv 0 1023 (0 : Int32)) (iv_wk (iv_c (c := 0) (x := (0 : Int32)) (by decide)) (by decide) (by decide) : iv 0 10 (0 : Int32)))
set_option maxHeartbeats 4000000 in
set_option maxRecDepth 100000 in
theorem ct_X2_brokenBy (σ : SS) (x1 : Int32) (x2 : Int32) (hI : Inv σ) : ConI yX2_brokenBy cX2_brokenBy 5 (some .int) 1 (some 6) [.int x1, .int x2] σ (fun r σ' => σ = σ' ∧ iv (-2147483648) 2147483647 r) := by
  refine conI_of (by decide) (fun q => Nat.le_of_ble_eq_true rfl) (fun E C en hR => ?_)
  have hn3 : 3 < e_n E := by rw [en]; decide
  have hn4 : 4 < e_n E := by rw [en]; decide
  have K5 : ∀ (n5 : Nat) (y3_5 : Int32) (y4_5 : Int32), (10 - (y4_5).toInt).toNat < n5 → iv 0 1023 y3_5 → iv 0 10 y4_5 → AT E 5 [(0, .ref (e_q E 6)), (1, .int x1), (2, .int x2), (3, .int y3_5), (4, .int y4_5)] [] σ := by
    intro n5
    induction n5 with
    | zero => intro y3_5 y4_5 hm; exact absurd hm (Nat.not_lt_zero _)
    | succ n5 ih5 =>
      intro y3_5 y4_5 hm5 b3_5 b4_5
      refine at_iload C 4 dX2_brokenBy_5 rfl ?_
      refine at_aload_n C 0 dX2_brokenBy_7 rfl ?_
      refine gf_X2_21 C dX2_brokenBy_8 ?_
      refine gf_X2_40 C dX2_brokenBy_11 ?_
      refine at_icmp_ge C 60 dX2_brokenBy_14 (by decide) (fun c166 => ?_) (fun c166 => ?_)
      · refine at_iload_n C 3 dX2_brokenBy_60 rfl ?_
        exact hR _ _ _ _ dX2_brokenBy_61 ⟨rfl, (iv_wk b3_5 (by decide) (by decide) : iv (-2147483648) 2147483647 y3_5)⟩
      · have f167 : iv 0 9 y4_5 := (iv_ltl b4_5 (show iv 0 10 (ac_gi σ 0) from hI.1 0) (Int32.not_le.mp c166))
        have f168 : iv 1 10 (ac_gi σ 0) := (iv_ltr b4_5 (show iv 0 10 (ac_gi σ 0) from hI.1 0) (Int32.not_le.mp c166))
        refine at_iload C 4 dX2_brokenBy_17 rfl ?_
        refine at_iload_n C 1 dX2_brokenBy_19 rfl ?_
        refine at_icmp_eq C 54 dX2_brokenBy_20 (by decide) (fun c169 => ?_) (fun c169 => ?_)
        · have f170 : iv 0 9 x1 := (iv_eqr f167 c169)
          refine at_iinc C (v := (y4_5 + (1 : Int32))) (lv' := [(4, .int (y4_5 + (1 : Int32))), (0, .ref (e_q E 6)), (1, .int x1), (2, .int x2), (3, .int y3_5)]) 4 dX2_brokenBy_54 rfl rfl hn4 rfl ?_
          refine at_goto C 5 dX2_brokenBy_57 (by decide) ?_
          exact at_sub [1, 2, 3, 4, 0] rfl (ih5 y3_5 (y4_5 + (1 : Int32)) (mz_up hm5 (ac_ti1 f167 (iv_c (c := 1) (x := (1 : Int32)) (by decide)) (by decide) (by decide) (by decide)) (by decide) (iv_wk (iv_add f167 (iv_c (c := 1) (x := (1 : Int32)) (by decide)) (by decide) (by decide)) (by decide) (by decide) : iv 0 10 (y4_5 + (1 : Int32))).2) (show iv 0 1023 y3_5 from b3_5) (iv_wk (iv_add f167 (iv_c (c := 1) (x := (1 : Int32)) (by decide)) (by decide) (by decide)) (by decide) (by decide) : iv 0 10 (y4_5 + (1 : Int32))))
        · refine at_aload_n C 0 dX2_brokenBy_23 rfl ?_
          refine gf_X2_21 C dX2_brokenBy_24 ?_
          refine at_iload_n C 1 dX2_brokenBy_27 rfl ?_
          refine at_iload C 4 dX2_brokenBy_28 rfl ?_
          refine at_aload_n C 0 dX2_brokenBy_30 rfl ?_
          refine gf_X2_15 C dX2_brokenBy_31 ?_
          refine at_iload C 4 dX2_brokenBy_34 rfl ?_
          refine at_iald C (c := 28) rfl (iv_in (n := 10) f167 (by decide) (by decide)) dX2_brokenBy_36 ?_
          refine at_Vi C (As := [.int x1, .int y4_5, .int (ac_ga σ 28 (y4_5).toNatClampNeg)]) (st := []) (b := 1) (ci := 0) (ct_X0_shutFor σ x1 y4_5 (ac_ga σ 28 (y4_5).toNatClampNeg) hI) mb_X0_shutFor ml_X2_46 rfl rfl rfl (by decide) rfl (Nat.le_of_ble_eq_true rfl) dX2_brokenBy_37 ?_
          rintro r171 _ ⟨rfl, f172⟩
          refine at_iload_n C 2 dX2_brokenBy_40 rfl ?_
          refine at_Ni C (As := [.int r171, .int x2]) (st := []) (ct_X6_has σ r171 x2) mb_X6_has ml_X2_49 rfl (by decide) rfl (Nat.le_of_ble_eq_true rfl) dX2_brokenBy_41 ?_
          rintro _ _ ⟨rfl, ⟨rfl, c173⟩ | ⟨rfl, c173⟩⟩
          · refine at_if_eq C 54 dX2_brokenBy_44 (by decide) (fun c175 => absurd c175 (iv_xeq (iv_c (c := 1) (x := (1 : Int32)) (by decide)) (iv_c (c := 0) (x := (0 : Int32)) (by decide)) (by decide))) (fun c175 => ?_)
            refine at_iload_n C 3 dX2_brokenBy_47 rfl ?_
            refine at_iconst C (1 : Int32) dX2_brokenBy_48 (by decide) ?_
            refine at_iload C 4 dX2_brokenBy_49 rfl ?_
            refine at_ishl C dX2_brokenBy_51 ?_
            refine at_ior C dX2_brokenBy_52 ?_
            refine at_istore_n C (lv' := [(3, .int (y3_5 ||| ((1 : Int32) <<< (y4_5 &&& 31)))), (0, .ref (e_q E 6)), (1, .int x1), (2, .int x2), (4, .int y4_5)]) dX2_brokenBy_53 hn3 rfl ?_
            refine at_iinc C (v := (y4_5 + (1 : Int32))) (lv' := [(4, .int (y4_5 + (1 : Int32))), (3, .int (y3_5 ||| ((1 : Int32) <<< (y4_5 &&& 31)))), (0, .ref (e_q E 6)), (1, .int x1), (2, .int x2)]) 4 dX2_brokenBy_54 rfl rfl hn4 rfl ?_
            refine at_goto C 5 dX2_brokenBy_57 (by decide) ?_
            exact at_sub [2, 3, 4, 1, 0] rfl (ih5 (y3_5 ||| ((1 : Int32) <<< (y4_5 &&& 31))) (y4_5 + (1 : Int32)) (mz_up hm5 (ac_ti1 f167 (iv_c (c := 1) (x := (1 : Int32)) (by decide)) (by decide) (by decide) (by decide)) (by decide) (iv_wk (iv_add f167 (iv_c (c := 1) (x := (1 : Int32)) (by decide)) (by decide) (by decide)) (by decide) (by decide) : iv 0 10 (y4_5 + (1 : Int32))).2) (show iv 0 1023 (y3_5 ||| ((1 : Int32) <<< (y4_5 &&& 31))) from (iv_or 10 b3_5 (iv_wk (c := 0) (iv_shl1 (a := 0) (b := 9) f167 (by decide)) (by decide) (Int.le_refl _)) (by decide) (by decide) (by decide))) (iv_wk (iv_add f167 (iv_c (c := 1) (x := (1 : Int32)) (by decide)) (by decide) (by decide)) (by decide) (by decide) : iv 0 10 (y4_5 + (1 : Int32))))
          · refine at_if_eq C 54 dX2_brokenBy_44 (by decide) (fun c176 => ?_) (fun c176 => absurd (iv_xne (iv_c (c := 0) (x := (0 : Int32)) (by decide)) (iv_c (c := 0) (x := (0 : Int32)) (by decide))) c176)
            refine at_iinc C (v := (y4_5 + (1 : Int32))) (lv' := [(4, .int (y4_5 + (1 : Int32))), (0, .ref (e_q E 6)), (1, .int x1), (2, .int x2), (3, .int y3_5)]) 4 dX2_brokenBy_54 rfl rfl hn4 rfl ?_
            refine at_goto C 5 dX2_brokenBy_57 (by decide) ?_
            exact at_sub [1, 2, 3, 4, 0] rfl (ih5 y3_5 (y4_5 + (1 : Int32)) (mz_up hm5 (ac_ti1 f167 (iv_c (c := 1) (x := (1 : Int32)) (by decide)) (by decide) (by decide) (by decide)) (by decide) (iv_wk (iv_add f167 (iv_c (c := 1) (x := (1 : Int32)) (by decide)) (by decide) (by decide)) (by decide) (by decide) : iv 0 10 (y4_5 + (1 : Int32))).2) (show iv 0 1023 y3_5 from b3_5) (iv_wk (iv_add f167 (iv_c (c := 1) (x := (1 : Int32)) (by decide)) (by decide) (by decide)) (by decide) (by decide) : iv 0 10 (y4_5 + (1 : Int32))))
  refine at_iconst C (0 : Int32) dX2_brokenBy_0 (by decide) ?_
  refine at_istore_n C (lv' := [(3, .int (0 : Int32)), (0, .ref (e_q E 6)), (1, .int x1), (2, .int x2)]) dX2_brokenBy_1 hn3 rfl ?_
  refine at_iconst C (0 : Int32) dX2_brokenBy_2 (by decide) ?_
  refine at_istore C (lv' := [(4, .int (0 : Int32)), (3, .int (0 : Int32)), (0, .ref (e_q E 6)), (1, .int x1), (2, .int x2)]) dX2_brokenBy_3 hn4 rfl ?_
  exact at_sub [2, 3, 4, 1, 0] rfl (K5 _ (0 : Int32) (0 : Int32) (Nat.lt_succ_self _) (iv_wk (iv_c (c := 0) (x := (0 : Int32)) (by decide)) (by decide) (by decide) : iv 0 1023 (0 : Int32)) (iv_wk (iv_c (c := 0) (x := (0 : Int32)) (by decide)) (by decide) (by decide) : iv 0 10 (0 : Int32)))
set_option maxHeartbeats 4000000 in
set_option maxRecDepth 100000 in
theorem ct_X2_freeFor (σ : SS) (x1 : Int32) (hI : Inv σ) : ConI yX2_freeFor cX2_freeFor 4 (some .int) 1 (some 6) [.int x1] σ (fun r σ' => σ = σ' ∧ iv (-2147483648) 2147483647 r) := by
  refine conI_of (by decide) (fun q => Nat.le_of_ble_eq_true rfl) (fun E C en hR => ?_)
  have hn2 : 2 < e_n E := by rw [en]; decide
  have hn3 : 3 < e_n E := by rw [en]; decide
  have K11 : ∀ (n11 : Nat) (y2_11 : Int32) (y3_11 : Int32), (10 - (y3_11).toInt).toNat < n11 → iv 0 63 y2_11 → iv 0 10 y3_11 → AT E 11 [(0, .ref (e_q E 6)), (1, .int x1), (2, .int y2_11), (3, .int y3_11)] [] σ := by
    intro n11
    induction n11 with
    | zero => intro y2_11 y3_11 hm; exact absurd hm (Nat.not_lt_zero _)
    | succ n11 ih11 =>
      intro y2_11 y3_11 hm11 b2_11 b3_11
      refine at_iload_n C 3 dX2_freeFor_11 rfl ?_
      refine at_aload_n C 0 dX2_freeFor_12 rfl ?_
      refine gf_X2_21 C dX2_freeFor_13 ?_
      refine gf_X2_40 C dX2_freeFor_16 ?_
      refine at_icmp_ge C 53 dX2_freeFor_19 (by decide) (fun c136 => ?_) (fun c136 => ?_)
      · refine at_iload_n C 2 dX2_freeFor_53 rfl ?_
        exact hR _ _ _ _ dX2_freeFor_54 ⟨rfl, (iv_wk b2_11 (by decide) (by decide) : iv (-2147483648) 2147483647 y2_11)⟩
      · have f137 : iv 0 9 y3_11 := (iv_ltl b3_11 (show iv 0 10 (ac_gi σ 0) from hI.1 0) (Int32.not_le.mp c136))
        have f138 : iv 1 10 (ac_gi σ 0) := (iv_ltr b3_11 (show iv 0 10 (ac_gi σ 0) from hI.1 0) (Int32.not_le.mp c136))
        refine at_iload_n C 3 dX2_freeFor_22 rfl ?_
        refine at_iload_n C 1 dX2_freeFor_23 rfl ?_
        refine at_icmp_eq C 47 dX2_freeFor_24 (by decide) (fun c139 => ?_) (fun c139 => ?_)
        · have f140 : iv 0 9 x1 := (iv_eqr f137 c139)
          refine at_iinc C (v := (y3_11 + (1 : Int32))) (lv' := [(3, .int (y3_11 + (1 : Int32))), (0, .ref (e_q E 6)), (1, .int x1), (2, .int y2_11)]) 3 dX2_freeFor_47 rfl rfl hn3 rfl ?_
          refine at_goto C 11 dX2_freeFor_50 (by decide) ?_
          exact at_sub [1, 2, 3, 0] rfl (ih11 y2_11 (y3_11 + (1 : Int32)) (mz_up hm11 (ac_ti1 f137 (iv_c (c := 1) (x := (1 : Int32)) (by decide)) (by decide) (by decide) (by decide)) (by decide) (iv_wk (iv_add f137 (iv_c (c := 1) (x := (1 : Int32)) (by decide)) (by decide) (by decide)) (by decide) (by decide) : iv 0 10 (y3_11 + (1 : Int32))).2) (show iv 0 63 y2_11 from b2_11) (iv_wk (iv_add f137 (iv_c (c := 1) (x := (1 : Int32)) (by decide)) (by decide) (by decide)) (by decide) (by decide) : iv 0 10 (y3_11 + (1 : Int32))))
        · refine at_iload_n C 2 dX2_freeFor_27 rfl ?_
          refine at_aload_n C 0 dX2_freeFor_28 rfl ?_
          refine gf_X2_21 C dX2_freeFor_29 ?_
          refine at_iload_n C 1 dX2_freeFor_32 rfl ?_
          refine at_iload_n C 3 dX2_freeFor_33 rfl ?_
          refine at_aload_n C 0 dX2_freeFor_34 rfl ?_
          refine gf_X2_15 C dX2_freeFor_35 ?_
          refine at_iload_n C 3 dX2_freeFor_38 rfl ?_
          refine at_iald C (c := 28) rfl (iv_in (n := 10) f137 (by decide) (by decide)) dX2_freeFor_39 ?_
          refine at_Vi C (As := [.int x1, .int y3_11, .int (ac_ga σ 28 (y3_11).toNatClampNeg)]) (st := [.int y2_11]) (b := 1) (ci := 0) (ct_X0_shutFor σ x1 y3_11 (ac_ga σ 28 (y3_11).toNatClampNeg) hI) mb_X0_shutFor ml_X2_46 rfl rfl rfl (by decide) rfl (Nat.le_of_ble_eq_true rfl) dX2_freeFor_40 ?_
          rintro r141 _ ⟨rfl, f142⟩
          refine at_iconst C (-1 : Int32) dX2_freeFor_43 (by decide) ?_
          refine at_ixor C dX2_freeFor_44 ?_
          refine at_iand C dX2_freeFor_45 ?_
          refine at_istore_n C (lv' := [(2, .int (y2_11 &&& (r141 ^^^ (-1 : Int32)))), (0, .ref (e_q E 6)), (1, .int x1), (3, .int y3_11)]) dX2_freeFor_46 hn2 rfl ?_
          refine at_iinc C (v := (y3_11 + (1 : Int32))) (lv' := [(3, .int (y3_11 + (1 : Int32))), (2, .int (y2_11 &&& (r141 ^^^ (-1 : Int32)))), (0, .ref (e_q E 6)), (1, .int x1)]) 3 dX2_freeFor_47 rfl rfl hn3 rfl ?_
          refine at_goto C 11 dX2_freeFor_50 (by decide) ?_
          exact at_sub [2, 3, 1, 0] rfl (ih11 (y2_11 &&& (r141 ^^^ (-1 : Int32))) (y3_11 + (1 : Int32)) (mz_up hm11 (ac_ti1 f137 (iv_c (c := 1) (x := (1 : Int32)) (by decide)) (by decide) (by decide) (by decide)) (by decide) (iv_wk (iv_add f137 (iv_c (c := 1) (x := (1 : Int32)) (by decide)) (by decide) (by decide)) (by decide) (by decide) : iv 0 10 (y3_11 + (1 : Int32))).2) (show iv 0 63 (y2_11 &&& (r141 ^^^ (-1 : Int32))) from (iv_andl b2_11)) (iv_wk (iv_add f137 (iv_c (c := 1) (x := (1 : Int32)) (by decide)) (by decide) (by decide)) (by decide) (by decide) : iv 0 10 (y3_11 + (1 : Int32))))
  refine at_aload_n C 0 dX2_freeFor_0 rfl ?_
  refine gf_X2_21 C dX2_freeFor_1 ?_
  refine at_iload_n C 1 dX2_freeFor_4 rfl ?_
  refine at_Vi C (As := [.int x1]) (st := []) (b := 1) (ci := 0) (ct_X0_mayHave σ x1 hI) mb_X0_mayHave ml_X2_53 rfl rfl rfl (by decide) rfl (Nat.le_of_ble_eq_true rfl) dX2_freeFor_5 ?_
  rintro r143 _ ⟨rfl, f144⟩
  refine at_istore_n C (lv' := [(2, .int r143), (0, .ref (e_q E 6)), (1, .int x1)]) dX2_freeFor_8 hn2 rfl ?_
  refine at_iconst C (0 : Int32) dX2_freeFor_9 (by decide) ?_
  refine at_istore_n C (lv' := [(3, .int (0 : Int32)), (2, .int r143), (0, .ref (e_q E 6)), (1, .int x1)]) dX2_freeFor_10 hn3 rfl ?_
  exact at_sub [2, 3, 1, 0] rfl (K11 _ r143 (0 : Int32) (Nat.lt_succ_self _) (show iv 0 63 r143 from f144) (iv_wk (iv_c (c := 0) (x := (0 : Int32)) (by decide)) (by decide) (by decide) : iv 0 10 (0 : Int32)))
