set_option maxHeartbeats 4000000 in
set_option maxRecDepth 100000 in
theorem ct_X2_toMove (σ : SS) (hI : Inv σ) : ConI yX2_toMove cX2_toMove 3 (some .int) 0 (some 6) [] σ (fun r σ' => σ = σ' ∧ iv 0 1023 r ∧ (r = tm_f (ac_ga σ 27) (ac_ga σ 28) (ac_gi σ 0).toNatClampNeg)) := by
  refine conI_of (by decide) (fun q => Nat.le_of_ble_eq_true rfl) (fun E C en hR => ?_)
  have hn1 : 1 < e_n E := by rw [en]; decide
  have hn2 : 2 < e_n E := by rw [en]; decide
  have K4 : ∀ (n4 : Nat) (y1_4 : Int32) (y2_4 : Int32), (10 - (y2_4).toInt).toNat < n4 → iv 0 1023 y1_4 → iv 0 10 y2_4 → (y1_4 = tm_f (ac_ga σ 27) (ac_ga σ 28) (y2_4).toNatClampNeg) → ((y2_4).toInt ≤ (ac_gi σ 0).toInt) → AT E 4 [(0, .ref (e_q E 6)), (1, .int y1_4), (2, .int y2_4)] [] σ := by
    intro n4
    induction n4 with
    | zero => intro y1_4 y2_4 hm; exact absurd hm (Nat.not_lt_zero _)
    | succ n4 ih4 =>
      intro y1_4 y2_4 hm4 b1_4 b2_4 e0_4 e1_4
      refine at_iload_n C 2 dX2_toMove_4 rfl ?_
      refine at_aload_n C 0 dX2_toMove_5 rfl ?_
      refine gf_X2_21 C dX2_toMove_6 ?_
      refine gf_X2_40 C dX2_toMove_9 ?_
      refine at_icmp_ge C 46 dX2_toMove_12 (by decide) (fun c61 => ?_) (fun c61 => ?_)
      · refine at_iload_n C 1 dX2_toMove_46 rfl ?_
        exact hR _ _ _ _ dX2_toMove_47 ⟨rfl, (show iv 0 1023 y1_4 from b1_4), (tm_x e0_4 e1_4 c61)⟩
      · have f62 : iv 0 9 y2_4 := (iv_ltl b2_4 (show iv 0 10 (ac_gi σ 0) from hI.1 0) (Int32.not_le.mp c61))
        have f63 : iv 1 10 (ac_gi σ 0) := (iv_ltr b2_4 (show iv 0 10 (ac_gi σ 0) from hI.1 0) (Int32.not_le.mp c61))
        refine at_iload_n C 1 dX2_toMove_15 rfl ?_
        refine at_aload_n C 0 dX2_toMove_16 rfl ?_
        refine gf_X2_9 C dX2_toMove_17 ?_
        refine at_iload_n C 2 dX2_toMove_20 rfl ?_
        refine at_iald C (c := 27) rfl (iv_in (n := 10) f62 (by decide) (by decide)) dX2_toMove_21 ?_
        refine at_aload_n C 0 dX2_toMove_22 rfl ?_
        refine gf_X2_15 C dX2_toMove_23 ?_
        refine at_iload_n C 2 dX2_toMove_26 rfl ?_
        refine at_iald C (c := 28) rfl (iv_in (n := 10) f62 (by decide) (by decide)) dX2_toMove_27 ?_
        refine at_icmp_eq C 37 dX2_toMove_28 (by decide) (fun c64 => ?_) (fun c64 => ?_)
        · refine at_iconst C (0 : Int32) dX2_toMove_37 (by decide) ?_
          refine at_ior C dX2_toMove_38 ?_
          refine at_istore_n C (lv' := [(1, .int (y1_4 ||| (0 : Int32))), (0, .ref (e_q E 6)), (2, .int y2_4)]) dX2_toMove_39 hn1 rfl ?_
          refine at_iinc C (v := (y2_4 + (1 : Int32))) (lv' := [(2, .int (y2_4 + (1 : Int32))), (1, .int (y1_4 ||| (0 : Int32))), (0, .ref (e_q E 6))]) 2 dX2_toMove_40 rfl rfl hn2 rfl ?_
          refine at_goto C 4 dX2_toMove_43 (by decide) ?_
          exact at_sub [2, 1, 0] rfl (ih4 (y1_4 ||| (0 : Int32)) (y2_4 + (1 : Int32)) (mz_up hm4 (ac_ti1 f62 (iv_c (c := 1) (x := (1 : Int32)) (by decide)) (by decide) (by decide) (by decide)) (by decide) (iv_wk (iv_add f62 (iv_c (c := 1) (x := (1 : Int32)) (by decide)) (by decide) (by decide)) (by decide) (by decide) : iv 0 10 (y2_4 + (1 : Int32))).2) (show iv 0 1023 (y1_4 ||| (0 : Int32)) from (iv_or 10 b1_4 (iv_c (c := 0) (x := (0 : Int32)) (by decide)) (by decide) (by decide) (by decide))) (iv_wk (iv_add f62 (iv_c (c := 1) (x := (1 : Int32)) (by decide)) (by decide) (by decide)) (by decide) (by decide) : iv 0 10 (y2_4 + (1 : Int32))) (tm_e (iv_wk f62 (by decide) (by decide) : iv 0 9 y2_4) e0_4 c64) (by have q := iv_lt (Int32.not_le.mp c61); have q2 := ac_ti1 f62 (iv_c (c := 1) (x := (1 : Int32)) (by decide)) (by decide) (by decide) (by decide); omega))
        · refine at_iconst C (1 : Int32) dX2_toMove_31 (by decide) ?_
          refine at_iload_n C 2 dX2_toMove_32 rfl ?_
          refine at_ishl C dX2_toMove_33 ?_
          refine at_goto C 38 dX2_toMove_34 (by decide) ?_
          refine at_ior C dX2_toMove_38 ?_
          refine at_istore_n C (lv' := [(1, .int (y1_4 ||| ((1 : Int32) <<< (y2_4 &&& 31)))), (0, .ref (e_q E 6)), (2, .int y2_4)]) dX2_toMove_39 hn1 rfl ?_
          refine at_iinc C (v := (y2_4 + (1 : Int32))) (lv' := [(2, .int (y2_4 + (1 : Int32))), (1, .int (y1_4 ||| ((1 : Int32) <<< (y2_4 &&& 31)))), (0, .ref (e_q E 6))]) 2 dX2_toMove_40 rfl rfl hn2 rfl ?_
          refine at_goto C 4 dX2_toMove_43 (by decide) ?_
          exact at_sub [2, 1, 0] rfl (ih4 (y1_4 ||| ((1 : Int32) <<< (y2_4 &&& 31))) (y2_4 + (1 : Int32)) (mz_up hm4 (ac_ti1 f62 (iv_c (c := 1) (x := (1 : Int32)) (by decide)) (by decide) (by decide) (by decide)) (by decide) (iv_wk (iv_add f62 (iv_c (c := 1) (x := (1 : Int32)) (by decide)) (by decide) (by decide)) (by decide) (by decide) : iv 0 10 (y2_4 + (1 : Int32))).2) (show iv 0 1023 (y1_4 ||| ((1 : Int32) <<< (y2_4 &&& 31))) from (iv_or 10 b1_4 (iv_wk (c := 0) (iv_shl1 (a := 0) (b := 9) f62 (by decide)) (by decide) (Int.le_refl _)) (by decide) (by decide) (by decide))) (iv_wk (iv_add f62 (iv_c (c := 1) (x := (1 : Int32)) (by decide)) (by decide) (by decide)) (by decide) (by decide) : iv 0 10 (y2_4 + (1 : Int32))) (tm_n (iv_wk f62 (by decide) (by decide) : iv 0 9 y2_4) e0_4 c64) (by have q := iv_lt (Int32.not_le.mp c61); have q2 := ac_ti1 f62 (iv_c (c := 1) (x := (1 : Int32)) (by decide)) (by decide) (by decide) (by decide); omega))
  refine at_iconst C (0 : Int32) dX2_toMove_0 (by decide) ?_
  refine at_istore_n C (lv' := [(1, .int (0 : Int32)), (0, .ref (e_q E 6))]) dX2_toMove_1 hn1 rfl ?_
  refine at_iconst C (0 : Int32) dX2_toMove_2 (by decide) ?_
  refine at_istore_n C (lv' := [(2, .int (0 : Int32)), (1, .int (0 : Int32)), (0, .ref (e_q E 6))]) dX2_toMove_3 hn2 rfl ?_
  exact at_sub [2, 1, 0] rfl (K4 _ (0 : Int32) (0 : Int32) (Nat.lt_succ_self _) (iv_wk (iv_c (c := 0) (x := (0 : Int32)) (by decide)) (by decide) (by decide) : iv 0 1023 (0 : Int32)) (iv_wk (iv_c (c := 0) (x := (0 : Int32)) (by decide)) (by decide) (by decide) : iv 0 10 (0 : Int32)) rfl (by have q := (show iv 0 10 (ac_gi σ 0) from (show iv 0 10 (ac_gi σ 0) from hI.1 0)).1; have q2 : (0 : Int32).toInt = 0 := (by decide); omega))
set_option maxHeartbeats 4000000 in
set_option maxRecDepth 100000 in
theorem ct_X2_channelOf (σ : SS) (x1 : Int32) (x2 : Int32) (hI : Inv σ) : ConI yX2_channelOf cX2_channelOf 3 (some .int) 1 (some 6) [.int x1, .int x2] σ (fun r σ' => σ = σ' ∧ iv (-1) 5 r ∧ ((0 ≤ (x1).toInt ∧ (x1).toInt < (ac_gi σ 0).toInt) → r = ch_f (ac_ga σ 27) (ac_ga σ 28) x2 (x1).toNatClampNeg)) := by
  refine conI_of (by decide) (fun q => Nat.le_of_ble_eq_true rfl) (fun E C en hR => ?_)
  refine at_aload_n C 0 dX2_channelOf_0 rfl ?_
  refine gf_X2_21 C dX2_channelOf_1 ?_
  refine at_iload_n C 1 dX2_channelOf_4 rfl ?_
  refine at_Vi C (As := [.int x1]) (st := []) (b := 1) (ci := 0) (ct_X0_isMast σ x1) mb_X0_isMast ml_X2_61 rfl rfl rfl (by decide) rfl (Nat.le_of_ble_eq_true rfl) dX2_channelOf_5 ?_
  rintro _ _ ⟨rfl, ⟨rfl, c64⟩ | ⟨rfl, c64⟩⟩
  · have f66 : iv 0 9 x1 := (iv_of3 c64 (show iv 0 10 (ac_gi σ 0) from hI.1 0))
    refine at_if_ne C 13 dX2_channelOf_8 (by decide) (fun c67 => ?_) (fun c67 => absurd c67 (iv_xeq (iv_c (c := 1) (x := (1 : Int32)) (by decide)) (iv_c (c := 0) (x := (0 : Int32)) (by decide)) (by decide)))
    refine at_iload_n C 2 dX2_channelOf_13 rfl ?_
    refine at_iload_n C 1 dX2_channelOf_14 rfl ?_
    refine at_Ni C (As := [.int x2, .int x1]) (st := []) (ct_X6_has σ x2 x1) mb_X6_has ml_X2_49 rfl (by decide) rfl (Nat.le_of_ble_eq_true rfl) dX2_channelOf_15 ?_
    rintro _ _ ⟨rfl, ⟨rfl, c68⟩ | ⟨rfl, c68⟩⟩
    · refine at_if_eq C 30 dX2_channelOf_18 (by decide) (fun c70 => absurd c70 (iv_xeq (iv_c (c := 1) (x := (1 : Int32)) (by decide)) (iv_c (c := 0) (x := (0 : Int32)) (by decide)) (by decide))) (fun c70 => ?_)
      refine at_aload_n C 0 dX2_channelOf_21 rfl ?_
      refine gf_X2_15 C dX2_channelOf_22 ?_
      refine at_iload_n C 1 dX2_channelOf_25 rfl ?_
      refine at_iald C (c := 28) rfl (iv_in (n := 10) f66 (by decide) (by decide)) dX2_channelOf_26 ?_
      refine at_goto C 36 dX2_channelOf_27 (by decide) ?_
      exact hR _ _ _ _ dX2_channelOf_36 ⟨rfl, (show iv (-1) 5 (ac_ga σ 28 (x1).toNatClampNeg) from (show iv (-1) 5 (ac_ga σ 28 (x1).toNatClampNeg) from hI.2 28 _)), (fun _ => ch_has (show iv 0 9 x1 from f66) c68)⟩
    · refine at_if_eq C 30 dX2_channelOf_18 (by decide) (fun c71 => ?_) (fun c71 => absurd (iv_xne (iv_c (c := 0) (x := (0 : Int32)) (by decide)) (iv_c (c := 0) (x := (0 : Int32)) (by decide))) c71)
      refine at_aload_n C 0 dX2_channelOf_30 rfl ?_
      refine gf_X2_9 C dX2_channelOf_31 ?_
      refine at_iload_n C 1 dX2_channelOf_34 rfl ?_
      refine at_iald C (c := 27) rfl (iv_in (n := 10) f66 (by decide) (by decide)) dX2_channelOf_35 ?_
      exact hR _ _ _ _ dX2_channelOf_36 ⟨rfl, (show iv (-1) 5 (ac_ga σ 27 (x1).toNatClampNeg) from (show iv (-1) 5 (ac_ga σ 27 (x1).toNatClampNeg) from hI.2 27 _)), (fun _ => ch_not (show iv 0 9 x1 from f66) c68)⟩
  · refine at_if_ne C 13 dX2_channelOf_8 (by decide) (fun c72 => absurd (iv_xne (iv_c (c := 0) (x := (0 : Int32)) (by decide)) (iv_c (c := 0) (x := (0 : Int32)) (by decide))) c72) (fun c72 => ?_)
    refine at_iconst C (-1 : Int32) dX2_channelOf_11 (by decide) ?_
    exact hR _ _ _ _ dX2_channelOf_12 ⟨rfl, (iv_wk (iv_c (c := (-1)) (x := (-1 : Int32)) (by decide)) (by decide) (by decide) : iv (-1) 5 (-1 : Int32)), (fun z => absurd z c64)⟩
set_option maxHeartbeats 4000000 in
set_option maxRecDepth 100000 in
theorem ct_X2_nobodyIsHeard (σ : SS) (x1 : Int32) (hI : Inv σ) : ConI yX2_nobodyIsHeard cX2_nobodyIsHeard 5 (some .boolean) 2 (some 6) [.int x1] σ (fun r σ' => σ = σ' ∧ ((r = 1 ∧ (qt (ac_ga σ 9) (ac_ga σ 27) (ac_ga σ 28) x1 (ac_gi σ 0).toNatClampNeg)) ∨ (r = 0 ∧ ¬ (qt (ac_ga σ 9) (ac_ga σ 27) (ac_ga σ 28) x1 (ac_gi σ 0).toNatClampNeg)))) := by
  refine conZ_of (by decide) (fun q => Nat.le_of_ble_eq_true rfl) (fun r u h => by rcases h.2 with h | h; exact Or.inr h.1; exact Or.inl h.1) (fun E C en hR => ?_)
  have hn2 : 2 < e_n E := by rw [en]; decide
  have hn3 : 3 < e_n E := by rw [en]; decide
  have hn4 : 4 < e_n E := by rw [en]; decide
  have K2 : ∀ (n2 : Nat) (y2_2 : Int32), (10 - (y2_2).toInt).toNat < n2 → iv 1 10 y2_2 → (qt (ac_ga σ 9) (ac_ga σ 27) (ac_ga σ 28) x1 (y2_2).toNatClampNeg) → AT E 2 [(0, .ref (e_q E 6)), (1, .int x1), (2, .int y2_2)] [] σ := by
    intro n2
    induction n2 with
    | zero => intro y2_2 hm; exact absurd hm (Nat.not_lt_zero _)
    | succ n2 ih2 =>
      intro y2_2 hm2 b2_2 e0_2
      have K23 : ∀ (n23 : Nat) (y3_23 : Int32) (y4_23 : Int32), (9 - (y4_23).toInt).toNat < n23 → iv 1 9 y2_2 → iv (-1) 5 y3_23 → iv 0 9 y4_23 → (qi (ac_ga σ 9) (ac_ga σ 27) (ac_ga σ 28) x1 y2_2 y3_23 y4_23) → (y2_2 < ac_gi σ 0) → AT E 23 [(0, .ref (e_q E 6)), (1, .int x1), (2, .int y2_2), (3, .int y3_23), (4, .int y4_23)] [] σ := by
        intro n23
        induction n23 with
        | zero => intro y3_23 y4_23 hm; exact absurd hm (Nat.not_lt_zero _)
        | succ n23 ih23 =>
          intro y3_23 y4_23 hm23 b2_23 b3_23 b4_23 e0_23 e1_23
          refine at_iload_n C 3 dX2_nobodyIsHeard_23 rfl ?_
          refine at_iconst C (-1 : Int32) dX2_nobodyIsHeard_24 (by decide) ?_
          refine at_icmp_eq C 66 dX2_nobodyIsHeard_25 (by decide) (fun c329 => ?_) (fun c329 => ?_)
          · have f330 : iv (-1) (-1) y3_23 := (iv_eql (iv_c (c := (-1)) (x := (-1 : Int32)) (by decide)) c329)
            refine at_iinc C (v := (y2_2 + (1 : Int32))) (lv' := [(2, .int (y2_2 + (1 : Int32))), (0, .ref (e_q E 6)), (1, .int x1), (3, .int y3_23), (4, .int y4_23)]) 2 dX2_nobodyIsHeard_66 rfl rfl hn2 rfl ?_
            refine at_goto C 2 dX2_nobodyIsHeard_69 (by decide) ?_
            exact at_sub [1, 2, 0] rfl (ih2 (y2_2 + (1 : Int32)) (mz_up hm2 (ac_ti1 b2_23 (iv_c (c := 1) (x := (1 : Int32)) (by decide)) (by decide) (by decide) (by decide)) (by decide) (iv_wk (iv_add b2_23 (iv_c (c := 1) (x := (1 : Int32)) (by decide)) (by decide) (by decide)) (by decide) (by decide) : iv 1 10 (y2_2 + (1 : Int32))).2) (iv_wk (iv_add b2_23 (iv_c (c := 1) (x := (1 : Int32)) (by decide)) (by decide) (by decide)) (by decide) (by decide) : iv 1 10 (y2_2 + (1 : Int32))) (qt_s (iv_wk b2_23 (by decide) (by decide) : iv 0 9 y2_2) e0_2 e0_23 (Or.inl c329)))
          · have f331 : iv 0 5 y3_23 := (iv_nel b3_23 (by decide) c329)
            refine at_iload C 4 dX2_nobodyIsHeard_28 rfl ?_
            refine at_iload_n C 2 dX2_nobodyIsHeard_30 rfl ?_
            refine at_icmp_ge C 66 dX2_nobodyIsHeard_31 (by decide) (fun c332 => ?_) (fun c332 => ?_)
            · have f333 : iv 1 9 y4_23 := (iv_ler b2_23 b4_23 c332)
              refine at_iinc C (v := (y2_2 + (1 : Int32))) (lv' := [(2, .int (y2_2 + (1 : Int32))), (0, .ref (e_q E 6)), (1, .int x1), (3, .int y3_23), (4, .int y4_23)]) 2 dX2_nobodyIsHeard_66 rfl rfl hn2 rfl ?_
              refine at_goto C 2 dX2_nobodyIsHeard_69 (by decide) ?_
              exact at_sub [1, 2, 0] rfl (ih2 (y2_2 + (1 : Int32)) (mz_up hm2 (ac_ti1 b2_23 (iv_c (c := 1) (x := (1 : Int32)) (by decide)) (by decide) (by decide) (by decide)) (by decide) (iv_wk (iv_add b2_23 (iv_c (c := 1) (x := (1 : Int32)) (by decide)) (by decide) (by decide)) (by decide) (by decide) : iv 1 10 (y2_2 + (1 : Int32))).2) (iv_wk (iv_add b2_23 (iv_c (c := 1) (x := (1 : Int32)) (by decide)) (by decide) (by decide)) (by decide) (by decide) : iv 1 10 (y2_2 + (1 : Int32))) (qt_s (iv_wk b2_23 (by decide) (by decide) : iv 0 9 y2_2) e0_2 e0_23 (Or.inr c332)))
            · have f334 : iv 0 8 y4_23 := (iv_ltl b4_23 b2_23 (Int32.not_le.mp c332))
              refine at_aload_n C 0 dX2_nobodyIsHeard_34 rfl ?_
              refine gf_X2_21 C dX2_nobodyIsHeard_35 ?_
              refine at_iload_n C 2 dX2_nobodyIsHeard_38 rfl ?_
              refine at_iload C 4 dX2_nobodyIsHeard_39 rfl ?_
              refine at_aload_n C 0 dX2_nobodyIsHeard_41 rfl ?_
              refine at_iload C 4 dX2_nobodyIsHeard_42 rfl ?_
              refine at_iload_n C 1 dX2_nobodyIsHeard_44 rfl ?_
              refine at_Vi C (As := [.int y4_23, .int x1]) (st := [.int y4_23, .int y2_2, .ref (e_q E 1)]) (b := 6) (ci := 2) (ct_X2_channelOf σ y4_23 x1 hI) mb_X2_channelOf ml_X2_57 rfl rfl rfl (by decide) rfl (Nat.le_of_ble_eq_true rfl) dX2_nobodyIsHeard_45 ?_
              rintro r335 _ ⟨rfl, f336, mo337⟩
              refine at_Vi C (As := [.int y2_2, .int y4_23, .int r335]) (st := []) (b := 1) (ci := 0) (ct_X0_shutFor σ y2_2 y4_23 r335 hI) mb_X0_shutFor ml_X2_46 rfl rfl rfl (by decide) rfl (Nat.le_of_ble_eq_true rfl) dX2_nobodyIsHeard_48 ?_
              rintro r338 _ ⟨rfl, f339, mo340⟩
              refine at_iload_n C 3 dX2_nobodyIsHeard_51 rfl ?_
              refine at_Ni C (As := [.int r338, .int y3_23]) (st := []) (ct_X6_has σ r338 y3_23) mb_X6_has ml_X2_49 rfl (by decide) rfl (Nat.le_of_ble_eq_true rfl) dX2_nobodyIsHeard_52 ?_
              rintro _ _ ⟨rfl, ⟨rfl, c341⟩ | ⟨rfl, c341⟩⟩
              · refine at_if_eq C 60 dX2_nobodyIsHeard_55 (by decide) (fun c343 => absurd c343 (iv_xeq (iv_c (c := 1) (x := (1 : Int32)) (by decide)) (iv_c (c := 0) (x := (0 : Int32)) (by decide)) (by decide))) (fun c343 => ?_)
                refine at_iconst C (0 : Int32) dX2_nobodyIsHeard_58 (by decide) ?_
                exact hR _ _ _ _ dX2_nobodyIsHeard_59 ⟨rfl, Or.inr ⟨rfl, (qt_no (iv_wk b2_23 (by decide) (by decide) : iv 0 9 y2_2) (iv_wk f334 (by decide) (by decide) : iv 0 9 y4_23) e0_23 ((hd_brk (b := ac_ga σ 27) (a := ac_ga σ 28) (M := x1) (iv_wk b2_23 (by decide) (by decide) : iv 0 9 y2_2) (iv_wk f334 (by decide) (by decide) : iv 0 9 y4_23) (iv_wk f331 (by decide) (by decide) : iv 0 5 y3_23) (iv_wk f336 (by decide) (by decide) : iv (-1) 5 r335) (fun j => (show iv 0 2 (ac_ga σ 9 j) from hI.2 9 j)) (mo337 ⟨(iv_wk f334 (by decide) (by decide) : iv 0 9 y4_23).1, by have q1 := iv_lt (Int32.not_le.mp c332); have q2 := iv_lt e1_23; omega⟩) (mo340 (iv_wk b2_23 (by decide) (by decide) : iv 0 9 y2_2) (iv_wk f334 (by decide) (by decide) : iv 0 9 y4_23))).mp c341) (Int32.not_le.mp c332) e1_23)⟩⟩
              · refine at_if_eq C 60 dX2_nobodyIsHeard_55 (by decide) (fun c344 => ?_) (fun c344 => absurd (iv_xne (iv_c (c := 0) (x := (0 : Int32)) (by decide)) (iv_c (c := 0) (x := (0 : Int32)) (by decide))) c344)
                refine at_iinc C (v := (y4_23 + (1 : Int32))) (lv' := [(4, .int (y4_23 + (1 : Int32))), (0, .ref (e_q E 6)), (1, .int x1), (2, .int y2_2), (3, .int y3_23)]) 4 dX2_nobodyIsHeard_60 rfl rfl hn4 rfl ?_
                refine at_goto C 23 dX2_nobodyIsHeard_63 (by decide) ?_
                exact at_sub [1, 2, 3, 4, 0] rfl (ih23 y3_23 (y4_23 + (1 : Int32)) (mz_up hm23 (ac_ti1 f334 (iv_c (c := 1) (x := (1 : Int32)) (by decide)) (by decide) (by decide) (by decide)) (by decide) (iv_wk (iv_add f334 (iv_c (c := 1) (x := (1 : Int32)) (by decide)) (by decide) (by decide)) (by decide) (by decide) : iv 0 9 (y4_23 + (1 : Int32))).2) (show iv 1 9 y2_2 from b2_23) (iv_wk f331 (by decide) (by decide) : iv (-1) 5 y3_23) (iv_wk (iv_add f334 (iv_c (c := 1) (x := (1 : Int32)) (by decide)) (by decide) (by decide)) (by decide) (by decide) : iv 0 9 (y4_23 + (1 : Int32))) (qi_s (iv_wk f334 (by decide) (by decide) : iv 0 9 y4_23) e0_23 (fun z => c341 ((hd_brk (b := ac_ga σ 27) (a := ac_ga σ 28) (M := x1) (iv_wk b2_23 (by decide) (by decide) : iv 0 9 y2_2) (iv_wk f334 (by decide) (by decide) : iv 0 9 y4_23) (iv_wk f331 (by decide) (by decide) : iv 0 5 y3_23) (iv_wk f336 (by decide) (by decide) : iv (-1) 5 r335) (fun j => (show iv 0 2 (ac_ga σ 9 j) from hI.2 9 j)) (mo337 ⟨(iv_wk f334 (by decide) (by decide) : iv 0 9 y4_23).1, by have q1 := iv_lt (Int32.not_le.mp c332); have q2 := iv_lt e1_23; omega⟩) (mo340 (iv_wk b2_23 (by decide) (by decide) : iv 0 9 y2_2) (iv_wk f334 (by decide) (by decide) : iv 0 9 y4_23))).mpr z))) e1_23)
      refine at_iload_n C 2 dX2_nobodyIsHeard_2 rfl ?_
      refine at_aload_n C 0 dX2_nobodyIsHeard_3 rfl ?_
      refine gf_X2_21 C dX2_nobodyIsHeard_4 ?_
      refine gf_X2_40 C dX2_nobodyIsHeard_7 ?_
      refine at_icmp_ge C 72 dX2_nobodyIsHeard_10 (by decide) (fun c345 => ?_) (fun c345 => ?_)
      · refine at_iconst C (1 : Int32) dX2_nobodyIsHeard_72 (by decide) ?_
        exact hR _ _ _ _ dX2_nobodyIsHeard_73 ⟨rfl, Or.inl ⟨rfl, (qt_le (iv_wk b2_2 (by decide) (by decide) : iv 0 10 y2_2) (show iv 0 10 (ac_gi σ 0) from (show iv 0 10 (ac_gi σ 0) from hI.1 0)) e0_2 c345)⟩⟩
      · have f346 : iv 1 9 y2_2 := (iv_ltl b2_2 (show iv 0 10 (ac_gi σ 0) from hI.1 0) (Int32.not_le.mp c345))
        have f347 : iv 2 10 (ac_gi σ 0) := (iv_ltr b2_2 (show iv 0 10 (ac_gi σ 0) from hI.1 0) (Int32.not_le.mp c345))
        refine at_aload_n C 0 dX2_nobodyIsHeard_13 rfl ?_
        refine at_iload_n C 2 dX2_nobodyIsHeard_14 rfl ?_
        refine at_iload_n C 1 dX2_nobodyIsHeard_15 rfl ?_
        refine at_Vi C (As := [.int y2_2, .int x1]) (st := []) (b := 6) (ci := 2) (ct_X2_channelOf σ y2_2 x1 hI) mb_X2_channelOf ml_X2_57 rfl rfl rfl (by decide) rfl (Nat.le_of_ble_eq_true rfl) dX2_nobodyIsHeard_16 ?_
        rintro r348 _ ⟨rfl, f349, mo350⟩
        refine at_istore_n C (lv' := [(3, .int r348), (0, .ref (e_q E 6)), (1, .int x1), (2, .int y2_2)]) dX2_nobodyIsHeard_19 hn3 rfl ?_
        refine at_iconst C (0 : Int32) dX2_nobodyIsHeard_20 (by decide) ?_
        refine at_istore C (lv' := [(4, .int (0 : Int32)), (3, .int r348), (0, .ref (e_q E 6)), (1, .int x1), (2, .int y2_2)]) dX2_nobodyIsHeard_21 hn4 rfl ?_
        exact at_sub [2, 3, 4, 1, 0] rfl (K23 _ r348 (0 : Int32) (Nat.lt_succ_self _) (show iv 1 9 y2_2 from f346) (show iv (-1) 5 r348 from f349) (iv_wk (iv_c (c := 0) (x := (0 : Int32)) (by decide)) (by decide) (by decide) : iv 0 9 (0 : Int32)) (qi_0 (mo350 ⟨by have q := (show iv 1 9 y2_2 from f346).1; omega, iv_lt (Int32.not_le.mp c345)⟩)) (Int32.not_le.mp c345))
  refine at_iconst C (1 : Int32) dX2_nobodyIsHeard_0 (by decide) ?_
  refine at_istore_n C (lv' := [(2, .int (1 : Int32)), (0, .ref (e_q E 6)), (1, .int x1)]) dX2_nobodyIsHeard_1 hn2 rfl ?_
  exact at_sub [1, 2, 0] rfl (K2 _ (1 : Int32) (Nat.lt_succ_self _) (iv_wk (iv_c (c := 1) (x := (1 : Int32)) (by decide)) (by decide) (by decide) : iv 1 10 (1 : Int32)) qt_1)
set_option maxHeartbeats 4000000 in
set_option maxRecDepth 100000 in
theorem ct_X2_weeksFrom (σ : SS) (x1 : Int32) (x2 : Int32) (x3 : Int32) (hI : Inv σ) (g1 : iv 0 1023 x1) (g2 : iv 0 1023 x2) : ConI yX2_weeksFrom cX2_weeksFrom 7 (some .int) 1 (some 6) [.int x1, .int x2, .int x3] σ (fun r σ' => σ = σ' ∧ iv 0 1000 r ∧ ((x1 = x2 ∧ r = 0) ∨ (¬ x1 = x2 ∧ mnC (ac_ga σ 29) (x1).toNatClampNeg (x2 &&& (x1 ^^^ (-1 : Int32))).toNatClampNeg (x3).toInt (r).toInt 0))) := by
  refine conI_of (by decide) (fun q => Nat.le_of_ble_eq_true rfl) (fun E C en hR => ?_)
  have hn4 : 4 < e_n E := by rw [en]; decide
  have hn5 : 5 < e_n E := by rw [en]; decide
  have hn6 : 6 < e_n E := by rw [en]; decide
  have K23 : ∀ (n23 : Nat) (y4_23 : Int32) (y5_23 : Int32) (y6_23 : Int32), ((y6_23).toInt - 0).toNat < n23 → iv 0 1023 y4_23 → iv 1 1000 y5_23 → iv 0 1023 y6_23 → (wf_I (ac_ga σ 29) (x1).toNatClampNeg y4_23 x3 y5_23 y6_23) → (y4_23 = (x2 &&& (x1 ^^^ (-1 : Int32)))) → (¬ x1 = x2) → AT E 23 [(0, .ref (e_q E 6)), (1, .int x1), (3, .int x3), (4, .int y4_23), (5, .int y5_23), (6, .int y6_23)] [] σ := by
    intro n23
    induction n23 with
    | zero => intro y4_23 y5_23 y6_23 hm; exact absurd hm (Nat.not_lt_zero _)
    | succ n23 ih23 =>
      intro y4_23 y5_23 y6_23 hm23 b4_23 b5_23 b6_23 e0_23 e1_23 e2_23
      refine at_iload C 5 dX2_weeksFrom_23 rfl ?_
      refine at_if_le C 67 dX2_weeksFrom_25 (by decide) (fun c81 => ?_) (fun c81 => ?_)
      · have f82 : iv 0 0 y6_23 := (iv_lel b6_23 (iv_c (c := 0) (x := (0 : Int32)) (by decide)) c81)
        refine at_iload C 4 dX2_weeksFrom_67 rfl ?_
        refine at_sipush C (1000 : Int32) dX2_weeksFrom_69 (by decide) ?_
        refine at_mmin C ml_X2_69 (by decide) (Nat.le_of_ble_eq_true rfl) dX2_weeksFrom_72 ?_
        exact hR _ _ _ _ dX2_weeksFrom_75 ⟨rfl, (iv_wk (iv_min b5_23 (iv_c (c := 1000) (x := (1000 : Int32)) (by decide))) (by decide) (by decide) : iv 0 1000 (ac_min y5_23 (1000 : Int32))), (Or.inr ⟨e2_23, by have q := wf_end2 (iv_wk f82 (by decide) (by decide) : iv 0 1023 y6_23) e0_23 c81; rw [e1_23] at q; exact q⟩)⟩
      · have f83 : iv 1 1023 y6_23 := (iv_ltr (iv_c (c := 0) (x := (0 : Int32)) (by decide)) b6_23 (Int32.not_le.mp c81))
        refine at_iload C 5 dX2_weeksFrom_28 rfl ?_
        refine at_Si C (As := [.int y6_23]) (st := []) (ct_J6_bitCount_0f7a4 σ y6_23) mb_J6_bitCount_0f7a4 ml_X2_64 rfl (by decide) rfl (Nat.le_of_ble_eq_true rfl) dX2_weeksFrom_30 ?_
        rintro r84 _ ⟨rfl, f85, mo86⟩
        refine at_iload_n C 2 dX2_weeksFrom_33 rfl ?_
        refine at_icmp_gt C 55 dX2_weeksFrom_34 (by decide) (fun c87 => ?_) (fun c87 => ?_)
        · have f88 : iv (-2147483648) 62 x3 := (iv_ltl (iv_any x3) f85 c87)
          refine at_iload C 5 dX2_weeksFrom_55 rfl ?_
          refine at_iconst C (1 : Int32) dX2_weeksFrom_57 (by decide) ?_
          refine at_isub C dX2_weeksFrom_58 ?_
          refine at_iload C 3 dX2_weeksFrom_59 rfl ?_
          refine at_iand C dX2_weeksFrom_61 ?_
          refine at_istore C (lv' := [(6, .int ((y6_23 - (1 : Int32)) &&& y4_23)), (0, .ref (e_q E 6)), (1, .int x1), (3, .int x3), (4, .int y4_23), (5, .int y5_23)]) dX2_weeksFrom_62 hn6 rfl ?_
          refine at_goto C 23 dX2_weeksFrom_64 (by decide) ?_
          exact at_sub [1, 2, 3, 4, 5, 0] rfl (ih23 y4_23 y5_23 ((y6_23 - (1 : Int32)) &&& y4_23) (mz_dn hm23 (mz_and f83 (by decide)) (iv_wk (iv_andl (iv_sub f83 (iv_c (c := 1) (x := (1 : Int32)) (by decide)) (by decide) (by decide))) (by decide) (by decide) : iv 0 1023 ((y6_23 - (1 : Int32)) &&& y4_23)).1) (show iv 0 1023 y4_23 from b4_23) (show iv 1 1000 y5_23 from b5_23) (iv_wk (iv_andl (iv_sub f83 (iv_c (c := 1) (x := (1 : Int32)) (by decide)) (by decide) (by decide))) (by decide) (by decide) : iv 0 1023 ((y6_23 - (1 : Int32)) &&& y4_23)) (wf_miss (iv_wk b4_23 (by decide) (by decide) : iv 0 1023 y4_23) (iv_wk f83 (by decide) (by decide) : iv 1 1023 y6_23) e0_23 mo86 c87) e1_23 e2_23)
        · have f89 : iv 0 2147483647 x3 := (iv_ler f85 (iv_any x3) (Int32.not_lt.mp c87))
          refine at_iload C 4 dX2_weeksFrom_37 rfl ?_
          refine at_aload_n C 0 dX2_weeksFrom_39 rfl ?_
          refine gf_X2_18 C dX2_weeksFrom_40 ?_
          refine at_iload_n C 1 dX2_weeksFrom_43 rfl ?_
          refine at_iload C 5 dX2_weeksFrom_44 rfl ?_
          refine at_ior C dX2_weeksFrom_46 ?_
          refine at_iald C (c := 29) rfl (iv_in (n := 1024) (iv_or 10 g1 (iv_wk (c := 0) f83 (by decide) (Int.le_refl _)) (by decide) (by decide) (by decide)) (by decide) (by decide)) dX2_weeksFrom_47 ?_
          refine at_iconst C (1 : Int32) dX2_weeksFrom_48 (by decide) ?_
          refine at_iadd C dX2_weeksFrom_49 ?_
          refine at_mmin C ml_X2_69 (by decide) (Nat.le_of_ble_eq_true rfl) dX2_weeksFrom_50 ?_
          refine at_istore C (lv' := [(5, .int (ac_min y5_23 ((ac_ga σ 29 ((x1 ||| y6_23)).toNatClampNeg) + (1 : Int32)))), (0, .ref (e_q E 6)), (1, .int x1), (3, .int x3), (4, .int y4_23), (6, .int y6_23)]) dX2_weeksFrom_53 hn5 rfl ?_
          refine at_iload C 5 dX2_weeksFrom_55 rfl ?_
          refine at_iconst C (1 : Int32) dX2_weeksFrom_57 (by decide) ?_
          refine at_isub C dX2_weeksFrom_58 ?_
          refine at_iload C 4 dX2_weeksFrom_59 rfl ?_
          refine at_iand C dX2_weeksFrom_61 ?_
          refine at_istore C (lv' := [(6, .int ((y6_23 - (1 : Int32)) &&& y4_23)), (5, .int (ac_min y5_23 ((ac_ga σ 29 ((x1 ||| y6_23)).toNatClampNeg) + (1 : Int32)))), (0, .ref (e_q E 6)), (1, .int x1), (3, .int x3), (4, .int y4_23)]) dX2_weeksFrom_62 hn6 rfl ?_
          refine at_goto C 23 dX2_weeksFrom_64 (by decide) ?_
          exact at_sub [2, 3, 4, 5, 1, 0] rfl (ih23 y4_23 (ac_min y5_23 ((ac_ga σ 29 ((x1 ||| y6_23)).toNatClampNeg) + (1 : Int32))) ((y6_23 - (1 : Int32)) &&& y4_23) (mz_dn hm23 (mz_and f83 (by decide)) (iv_wk (iv_andl (iv_sub f83 (iv_c (c := 1) (x := (1 : Int32)) (by decide)) (by decide) (by decide))) (by decide) (by decide) : iv 0 1023 ((y6_23 - (1 : Int32)) &&& y4_23)).1) (show iv 0 1023 y4_23 from b4_23) (show iv 1 1000 (ac_min y5_23 ((ac_ga σ 29 ((x1 ||| y6_23)).toNatClampNeg) + (1 : Int32))) from (iv_min b5_23 (iv_add (show iv 0 1000 (ac_ga σ 29 ((x1 ||| y6_23)).toNatClampNeg) from hI.2 29 _) (iv_c (c := 1) (x := (1 : Int32)) (by decide)) (by decide) (by decide)))) (iv_wk (iv_andl (iv_sub f83 (iv_c (c := 1) (x := (1 : Int32)) (by decide)) (by decide) (by decide))) (by decide) (by decide) : iv 0 1023 ((y6_23 - (1 : Int32)) &&& y4_23)) (wf_hit (fun j => (show iv 0 1000 (ac_ga σ 29 j) from hI.2 29 j)) g1 (iv_wk b4_23 (by decide) (by decide) : iv 0 1023 y4_23) (iv_wk f83 (by decide) (by decide) : iv 1 1023 y6_23) e0_23 mo86 (Int32.not_lt.mp c87)) e1_23 e2_23)
  refine at_iload_n C 1 dX2_weeksFrom_0 rfl ?_
  refine at_iload_n C 2 dX2_weeksFrom_1 rfl ?_
  refine at_icmp_ne C 7 dX2_weeksFrom_2 (by decide) (fun c90 => ?_) (fun c90 => ?_)
  · refine at_iload_n C 2 dX2_weeksFrom_7 rfl ?_
    refine at_iload_n C 1 dX2_weeksFrom_8 rfl ?_
    refine at_iconst C (-1 : Int32) dX2_weeksFrom_9 (by decide) ?_
    refine at_ixor C dX2_weeksFrom_10 ?_
    refine at_iand C dX2_weeksFrom_11 ?_
    refine at_istore C (lv' := [(4, .int (x2 &&& (x1 ^^^ (-1 : Int32)))), (0, .ref (e_q E 6)), (1, .int x1), (2, .int x2), (3, .int x3)]) dX2_weeksFrom_12 hn4 rfl ?_
    refine at_sipush C (1000 : Int32) dX2_weeksFrom_14 (by decide) ?_
    refine at_istore C (lv' := [(5, .int (1000 : Int32)), (4, .int (x2 &&& (x1 ^^^ (-1 : Int32)))), (0, .ref (e_q E 6)), (1, .int x1), (2, .int x2), (3, .int x3)]) dX2_weeksFrom_17 hn5 rfl ?_
    refine at_iload C 1 dX2_weeksFrom_19 rfl ?_
    refine at_istore C (lv' := [(6, .int (x2 &&& (x1 ^^^ (-1 : Int32)))), (5, .int (1000 : Int32)), (4, .int (x2 &&& (x1 ^^^ (-1 : Int32)))), (0, .ref (e_q E 6)), (1, .int x1), (2, .int x2), (3, .int x3)]) dX2_weeksFrom_21 hn6 rfl ?_
    exact at_sub [3, 4, 6, 2, 1, 0] rfl (K23 _ (x2 &&& (x1 ^^^ (-1 : Int32))) (1000 : Int32) (x2 &&& (x1 ^^^ (-1 : Int32))) (Nat.lt_succ_self _) (show iv 0 1023 (x2 &&& (x1 ^^^ (-1 : Int32))) from (iv_andl g2)) (iv_wk (iv_c (c := 1000) (x := (1000 : Int32)) (by decide)) (by decide) (by decide) : iv 1 1000 (1000 : Int32)) (show iv 0 1023 (x2 &&& (x1 ^^^ (-1 : Int32))) from (iv_andl g2)) wf_0 rfl c90)
  · refine at_iconst C (0 : Int32) dX2_weeksFrom_5 (by decide) ?_
    exact hR _ _ _ _ dX2_weeksFrom_6 ⟨rfl, (iv_wk (iv_c (c := 0) (x := (0 : Int32)) (by decide)) (by decide) (by decide) : iv 0 1000 (0 : Int32)), (Or.inl ⟨c90, rfl⟩)⟩
set_option maxHeartbeats 4000000 in
set_option maxRecDepth 100000 in
theorem ct_X2_firstStep (σ : SS) (x1 : Int32) (x2 : Int32) (x3 : Int32) (hI : Inv σ) (g1 : iv 0 1023 x1) (g2 : iv 0 1023 x2) : ConI yX2_firstStep cX2_firstStep 5 (some .int) 1 (some 6) [.int x1, .int x2, .int x3] σ (fun r σ' => σ = σ' ∧ iv 0 1023 r ∧ (fsC (ac_ga σ 29) (x1).toNatClampNeg (x2).toNatClampNeg (x3).toInt (r).toNatClampNeg)) := by
  refine conI_of (by decide) (fun q => Nat.le_of_ble_eq_true rfl) (fun E C en hR => ?_)
  have hn4 : 4 < e_n E := by rw [en]; decide
  have K3 : ∀ (n3 : Nat) (y4_3 : Int32), (1024 - (y4_3).toInt).toNat < n3 → iv 1 1024 y4_3 → (fs_I (ac_ga σ 29) (x1).toNatClampNeg x2 x3 y4_3) → AT E 3 [(0, .ref (e_q E 6)), (1, .int x1), (2, .int x2), (3, .int x3), (4, .int y4_3)] [] σ := by
    intro n3
    induction n3 with
    | zero => intro y4_3 hm; exact absurd hm (Nat.not_lt_zero _)
    | succ n3 ih3 =>
      intro y4_3 hm3 b4_3 e0_3
      refine at_iload C 4 dX2_firstStep_3 rfl ?_
      refine at_iload_n C 2 dX2_firstStep_5 rfl ?_
      refine at_icmp_gt C 56 dX2_firstStep_6 (by decide) (fun c511 => ?_) (fun c511 => ?_)
      · refine at_iconst C (0 : Int32) dX2_firstStep_56 (by decide) ?_
        exact hR _ _ _ _ dX2_firstStep_57 ⟨rfl, (iv_wk (iv_c (c := 0) (x := (0 : Int32)) (by decide)) (by decide) (by decide) : iv 0 1023 (0 : Int32)), (fs_z g2 (iv_wk b4_3 (by decide) (by decide) : iv 1 1024 y4_3) e0_3 c511)⟩
      · have f512 : iv 1 1023 y4_3 := (iv_lel b4_3 g2 (Int32.not_lt.mp c511))
        have f513 : iv 1 1023 x2 := (iv_ler b4_3 g2 (Int32.not_lt.mp c511))
        refine at_iload C 4 dX2_firstStep_9 rfl ?_
        refine at_iload_n C 2 dX2_firstStep_11 rfl ?_
        refine at_iconst C (-1 : Int32) dX2_firstStep_12 (by decide) ?_
        refine at_ixor C dX2_firstStep_13 ?_
        refine at_iand C dX2_firstStep_14 ?_
        refine at_if_ne C 50 dX2_firstStep_15 (by decide) (fun c514 => ?_) (fun c514 => ?_)
        · have f515 : iv 1 1023 (y4_3 &&& (x2 ^^^ (-1 : Int32))) := (iv_nel (iv_andl (iv_wk (c := 0) f512 (by decide) (Int.le_refl _))) (by decide) c514)
          refine at_iinc C (v := (y4_3 + (1 : Int32))) (lv' := [(4, .int (y4_3 + (1 : Int32))), (0, .ref (e_q E 6)), (1, .int x1), (2, .int x2), (3, .int x3)]) 4 dX2_firstStep_50 rfl rfl hn4 rfl ?_
          refine at_goto C 3 dX2_firstStep_53 (by decide) ?_
          exact at_sub [1, 2, 3, 4, 0] rfl (ih3 (y4_3 + (1 : Int32)) (mz_up hm3 (ac_ti1 f512 (iv_c (c := 1) (x := (1 : Int32)) (by decide)) (by decide) (by decide) (by decide)) (by decide) (iv_wk (iv_add f512 (iv_c (c := 1) (x := (1 : Int32)) (by decide)) (by decide) (by decide)) (by decide) (by decide) : iv 1 1024 (y4_3 + (1 : Int32))).2) (iv_wk (iv_add f512 (iv_c (c := 1) (x := (1 : Int32)) (by decide)) (by decide) (by decide)) (by decide) (by decide) : iv 1 1024 (y4_3 + (1 : Int32))) (fs_na g2 (iv_wk f512 (by decide) (by decide) : iv 1 1023 y4_3) e0_3 c514))
        · have f516 : iv 0 0 (y4_3 &&& (x2 ^^^ (-1 : Int32))) := (iv_eql (iv_c (c := 0) (x := (0 : Int32)) (by decide)) c514)
          refine at_iload C 4 dX2_firstStep_18 rfl ?_
          refine at_Si C (As := [.int y4_3]) (st := []) (ct_J6_bitCount_0f7a4 σ y4_3) mb_J6_bitCount_0f7a4 ml_X2_64 rfl (by decide) rfl (Nat.le_of_ble_eq_true rfl) dX2_firstStep_20 ?_
          rintro r517 _ ⟨rfl, f518, mo519⟩
          refine at_iload_n C 3 dX2_firstStep_23 rfl ?_
          refine at_icmp_gt C 50 dX2_firstStep_24 (by decide) (fun c520 => ?_) (fun c520 => ?_)
          · have f521 : iv (-2147483648) 62 x3 := (iv_ltl (iv_any x3) f518 c520)
            refine at_iinc C (v := (y4_3 + (1 : Int32))) (lv' := [(4, .int (y4_3 + (1 : Int32))), (0, .ref (e_q E 6)), (1, .int x1), (2, .int x2), (3, .int x3)]) 4 dX2_firstStep_50 rfl rfl hn4 rfl ?_
            refine at_goto C 3 dX2_firstStep_53 (by decide) ?_
            exact at_sub [1, 2, 3, 4, 0] rfl (ih3 (y4_3 + (1 : Int32)) (mz_up hm3 (ac_ti1 f512 (iv_c (c := 1) (x := (1 : Int32)) (by decide)) (by decide) (by decide) (by decide)) (by decide) (iv_wk (iv_add f512 (iv_c (c := 1) (x := (1 : Int32)) (by decide)) (by decide) (by decide)) (by decide) (by decide) : iv 1 1024 (y4_3 + (1 : Int32))).2) (iv_wk (iv_add f512 (iv_c (c := 1) (x := (1 : Int32)) (by decide)) (by decide) (by decide)) (by decide) (by decide) : iv 1 1024 (y4_3 + (1 : Int32))) (fs_nb (iv_wk f512 (by decide) (by decide) : iv 1 1023 y4_3) e0_3 mo519 c520))
          · have f522 : iv 0 2147483647 x3 := (iv_ler f518 (iv_any x3) (Int32.not_lt.mp c520))
            refine at_aload_n C 0 dX2_firstStep_27 rfl ?_
            refine gf_X2_18 C dX2_firstStep_28 ?_
            refine at_iload_n C 1 dX2_firstStep_31 rfl ?_
            refine at_iload C 4 dX2_firstStep_32 rfl ?_
            refine at_ior C dX2_firstStep_34 ?_
            refine at_iald C (c := 29) rfl (iv_in (n := 1024) (iv_or 10 g1 (iv_wk (c := 0) f512 (by decide) (Int.le_refl _)) (by decide) (by decide) (by decide)) (by decide) (by decide)) dX2_firstStep_35 ?_
            refine at_iconst C (1 : Int32) dX2_firstStep_36 (by decide) ?_
            refine at_iadd C dX2_firstStep_37 ?_
            refine at_aload_n C 0 dX2_firstStep_38 rfl ?_
            refine gf_X2_18 C dX2_firstStep_39 ?_
            refine at_iload_n C 1 dX2_firstStep_42 rfl ?_
            refine at_iald C (c := 29) rfl (iv_in (n := 1024) g1 (by decide) (by decide)) dX2_firstStep_43 ?_
            refine at_icmp_ne C 50 dX2_firstStep_44 (by decide) (fun c523 => ?_) (fun c523 => ?_)
            · refine at_iinc C (v := (y4_3 + (1 : Int32))) (lv' := [(4, .int (y4_3 + (1 : Int32))), (0, .ref (e_q E 6)), (1, .int x1), (2, .int x2), (3, .int x3)]) 4 dX2_firstStep_50 rfl rfl hn4 rfl ?_
              refine at_goto C 3 dX2_firstStep_53 (by decide) ?_
              exact at_sub [1, 2, 3, 4, 0] rfl (ih3 (y4_3 + (1 : Int32)) (mz_up hm3 (ac_ti1 f512 (iv_c (c := 1) (x := (1 : Int32)) (by decide)) (by decide) (by decide) (by decide)) (by decide) (iv_wk (iv_add f512 (iv_c (c := 1) (x := (1 : Int32)) (by decide)) (by decide) (by decide)) (by decide) (by decide) : iv 1 1024 (y4_3 + (1 : Int32))).2) (iv_wk (iv_add f512 (iv_c (c := 1) (x := (1 : Int32)) (by decide)) (by decide) (by decide)) (by decide) (by decide) : iv 1 1024 (y4_3 + (1 : Int32))) (fs_nc (fun j => (show iv 0 1000 (ac_ga σ 29 j) from hI.2 29 j)) g1 (iv_wk f512 (by decide) (by decide) : iv 1 1023 y4_3) e0_3 c523))
            · have f524 : iv 1 1000 ((ac_ga σ 29 ((x1 ||| y4_3)).toNatClampNeg) + (1 : Int32)) := iv_meet (iv_eql (show iv 0 1000 (ac_ga σ 29 (x1).toNatClampNeg) from hI.2 29 _) c523) (iv_add (show iv 0 1000 (ac_ga σ 29 ((x1 ||| y4_3)).toNatClampNeg) from hI.2 29 _) (iv_c (c := 1) (x := (1 : Int32)) (by decide)) (by decide) (by decide))
              have f525 : iv 1 1000 (ac_ga σ 29 (x1).toNatClampNeg) := iv_meet (iv_eqr (iv_add (show iv 0 1000 (ac_ga σ 29 ((x1 ||| y4_3)).toNatClampNeg) from hI.2 29 _) (iv_c (c := 1) (x := (1 : Int32)) (by decide)) (by decide) (by decide)) c523) (show iv 0 1000 (ac_ga σ 29 (x1).toNatClampNeg) from hI.2 29 _)
              refine at_iload C 4 dX2_firstStep_47 rfl ?_
              exact hR _ _ _ _ dX2_firstStep_49 ⟨rfl, (iv_wk f512 (by decide) (by decide) : iv 0 1023 y4_3), (fs_y (fun j => (show iv 0 1000 (ac_ga σ 29 j) from hI.2 29 j)) g1 g2 (iv_wk f512 (by decide) (by decide) : iv 1 1023 y4_3) e0_3 c514 mo519 (Int32.not_lt.mp c520) c523)⟩
  refine at_iconst C (1 : Int32) dX2_firstStep_0 (by decide) ?_
  refine at_istore C (lv' := [(4, .int (1 : Int32)), (0, .ref (e_q E 6)), (1, .int x1), (2, .int x2), (3, .int x3)]) dX2_firstStep_1 hn4 rfl ?_
  exact at_sub [1, 2, 3, 4, 0] rfl (K3 _ (1 : Int32) (Nat.lt_succ_self _) (iv_wk (iv_c (c := 1) (x := (1 : Int32)) (by decide)) (by decide) (by decide) : iv 1 1024 (1 : Int32)) fs_1)
set_option maxHeartbeats 4000000 in
set_option maxRecDepth 100000 in
theorem ct_X2_fewestWeeks (σ : SS) (x1 : Int32) (hI : Inv σ) : ConI yX2_fewestWeeks cX2_fewestWeeks 4 (some .int) 3 (some 6) [.int x1] σ (fun r σ' => Gd σ σ' ∧ iv 0 1000 r ∧ (wk_T (ac_ga σ 9) (ac_ga σ 27) (ac_ga σ 28) (ac_gi σ 0) x1 (ac_ga σ' 29) ∧ r = ac_ga σ' 29 (0 : Int32).toNatClampNeg)) := by
  refine conI_of (by decide) (fun q => Nat.le_of_ble_eq_true rfl) (fun E C en hR => ?_)
  have hn2 : 2 < e_n E := by rw [en]; decide
  have hn3 : 3 < e_n E := by rw [en]; decide
  have hG0 : Gd σ σ := Gd.rf hI
  have K7 : ∀ (n7 : Nat) (y2_7 : Int32) (y3_7 : Int32) (s7 : SS), ((y3_7).toInt - (-1)).toNat < n7 → iv 0 1023 y2_7 → iv (-1) 1023 y3_7 → Gd σ s7 → (y2_7 = tm_f (ac_ga σ 27) (ac_ga σ 28) (ac_gi σ 0).toNatClampNeg) → (fw_I (ac_ga σ 9) (ac_ga σ 27) (ac_ga σ 28) (ac_gi σ 0) y2_7 x1 y3_7 (ac_ga s7 29)) → AT E 7 [(0, .ref (e_q E 6)), (1, .int x1), (2, .int y2_7), (3, .int y3_7)] [] s7 := by
    intro n7
    induction n7 with
    | zero => intro y2_7 y3_7 s7 hm; exact absurd hm (Nat.not_lt_zero _)
    | succ n7 ih7 =>
      intro y2_7 y3_7 s7 hm7 b2_7 b3_7 hG_7 e0_7 e1_7
      refine at_iload_n C 3 dX2_fewestWeeks_7 rfl ?_
      refine at_if_lt C 52 dX2_fewestWeeks_8 (by decide) (fun c143 => ?_) (fun c143 => ?_)
      · have f144 : iv (-1) (-1) y3_7 := (iv_ltl b3_7 (iv_c (c := 0) (x := (0 : Int32)) (by decide)) c143)
        refine at_aload_n C 0 dX2_fewestWeeks_52 rfl ?_
        refine gf_X2_18 C dX2_fewestWeeks_53 ?_
        refine at_iconst C (0 : Int32) dX2_fewestWeeks_56 (by decide) ?_
        refine at_iald C (c := 29) rfl (iv_in (n := 1024) (iv_c (c := 0) (x := (0 : Int32)) (by decide)) (by decide) (by decide)) dX2_fewestWeeks_57 ?_
        exact hR _ _ _ _ dX2_fewestWeeks_58 ⟨hG_7, (show iv 0 1000 (ac_ga s7 29 ((0 : Int32)).toNatClampNeg) from (show iv 0 1000 (ac_ga s7 29 ((0 : Int32)).toNatClampNeg) from hG_7.1.2 29 _)), ⟨fw_t (fw_x e1_7 c143) e0_7, rfl⟩⟩
      · have f145 : iv 0 1023 y3_7 := (iv_ler (iv_c (c := 0) (x := (0 : Int32)) (by decide)) b3_7 (Int32.not_lt.mp c143))
        refine at_iload_n C 3 dX2_fewestWeeks_11 rfl ?_
        refine at_iload_n C 2 dX2_fewestWeeks_12 rfl ?_
        refine at_iconst C (-1 : Int32) dX2_fewestWeeks_13 (by decide) ?_
        refine at_ixor C dX2_fewestWeeks_14 ?_
        refine at_iand C dX2_fewestWeeks_15 ?_
        refine at_if_ne C 46 dX2_fewestWeeks_16 (by decide) (fun c146 => ?_) (fun c146 => ?_)
        · have f147 : iv 1 1023 (y3_7 &&& (y2_7 ^^^ (-1 : Int32))) := (iv_nel (iv_andl f145) (by decide) c146)
          refine at_iinc C (v := (y3_7 + (-1 : Int32))) (lv' := [(3, .int (y3_7 + (-1 : Int32))), (0, .ref (e_q E 6)), (1, .int x1), (2, .int y2_7)]) 3 dX2_fewestWeeks_46 rfl rfl hn3 rfl ?_
          refine at_goto C 7 dX2_fewestWeeks_49 (by decide) ?_
          exact at_sub [1, 2, 3, 0] rfl (ih7 y2_7 (y3_7 + (-1 : Int32)) s7 (mz_dn hm7 (mz_m1 f145 (by decide)) (iv_wk (iv_add f145 (iv_c (c := (-1)) (x := (-1 : Int32)) (by decide)) (by decide) (by decide)) (by decide) (by decide) : iv (-1) 1023 (y3_7 + (-1 : Int32))).1) (show iv 0 1023 y2_7 from b2_7) (iv_wk (iv_add f145 (iv_c (c := (-1)) (x := (-1 : Int32)) (by decide)) (by decide) (by decide)) (by decide) (by decide) : iv (-1) 1023 (y3_7 + (-1 : Int32))) hG_7 e0_7 (fw_s (iv_wk b2_7 (by decide) (by decide) : iv 0 1023 y2_7) (iv_wk f145 (by decide) (by decide) : iv 0 1023 y3_7) e1_7 c146))
        · have f148 : iv 0 0 (y3_7 &&& (y2_7 ^^^ (-1 : Int32))) := (iv_eql (iv_c (c := 0) (x := (0 : Int32)) (by decide)) c146)
          refine at_aload_n C 0 dX2_fewestWeeks_19 rfl ?_
          refine gf_X2_18 C dX2_fewestWeeks_20 ?_
          refine at_iload_n C 3 dX2_fewestWeeks_23 rfl ?_
          refine at_aload_n C 0 dX2_fewestWeeks_24 rfl ?_
          refine at_iload_n C 3 dX2_fewestWeeks_25 rfl ?_
          refine at_Vi C (As := [.int y3_7]) (st := [.int y3_7, .ref (e_q E 29)]) (b := 6) (ci := 2) (ct_X2_nobodyIsHeard s7 y3_7 hG_7.1) mb_X2_nobodyIsHeard ml_X2_29 rfl rfl rfl (by decide) rfl (Nat.le_of_ble_eq_true rfl) dX2_fewestWeeks_26 ?_
          rintro _ _ ⟨rfl, ⟨rfl, c149⟩ | ⟨rfl, c149⟩⟩
          · refine at_if_eq C 42 dX2_fewestWeeks_29 (by decide) (fun c151 => absurd c151 (iv_xeq (iv_c (c := 1) (x := (1 : Int32)) (by decide)) (iv_c (c := 0) (x := (0 : Int32)) (by decide)) (by decide))) (fun c151 => ?_)
            refine at_aload_n C 0 dX2_fewestWeeks_32 rfl ?_
            refine at_iload_n C 3 dX2_fewestWeeks_33 rfl ?_
            refine at_iload_n C 2 dX2_fewestWeeks_34 rfl ?_
            refine at_iload_n C 1 dX2_fewestWeeks_35 rfl ?_
            refine at_Vi C (As := [.int y3_7, .int y2_7, .int x1]) (st := [.int y3_7, .ref (e_q E 29)]) (b := 6) (ci := 2) (ct_X2_weeksFrom s7 y3_7 y2_7 x1 hG_7.1 (show iv 0 1023 y3_7 from f145) (show iv 0 1023 y2_7 from b2_7)) mb_X2_weeksFrom ml_X2_33 rfl rfl rfl (by decide) rfl (Nat.le_of_ble_eq_true rfl) dX2_fewestWeeks_36 ?_
            rintro r152 _ ⟨rfl, f153, mo154⟩
            refine at_goto C 45 dX2_fewestWeeks_39 (by decide) ?_
            refine at_iast C (c := 29) rfl (fun f => ac_ast_29 _ _ _ _ f) (iv_in (n := 1024) f145 (by decide) (by decide)) dX2_fewestWeeks_45 ?_
            have hG155 := Gd.sa (c := 29) (i := (y3_7).toNatClampNeg) hG_7 rfl (show iv 0 1000 r152 from f153)
            refine at_iinc C (v := (y3_7 + (-1 : Int32))) (lv' := [(3, .int (y3_7 + (-1 : Int32))), (0, .ref (e_q E 6)), (1, .int x1), (2, .int y2_7)]) 3 dX2_fewestWeeks_46 rfl rfl hn3 rfl ?_
            refine at_goto C 7 dX2_fewestWeeks_49 (by decide) ?_
            exact at_sub [1, 2, 3, 0] rfl (ih7 y2_7 (y3_7 + (-1 : Int32)) (ac_sa s7 29 (upd (ac_ga s7 29) (y3_7).toNatClampNeg r152)) (mz_dn hm7 (mz_m1 f145 (by decide)) (iv_wk (iv_add f145 (iv_c (c := (-1)) (x := (-1 : Int32)) (by decide)) (by decide) (by decide)) (by decide) (by decide) : iv (-1) 1023 (y3_7 + (-1 : Int32))).1) (show iv 0 1023 y2_7 from b2_7) (iv_wk (iv_add f145 (iv_c (c := (-1)) (x := (-1 : Int32)) (by decide)) (by decide) (by decide)) (by decide) (by decide) : iv (-1) 1023 (y3_7 + (-1 : Int32))) hG155 e0_7 (fw_w (iv_wk b2_7 (by decide) (by decide) : iv 0 1023 y2_7) (iv_wk f145 (by decide) (by decide) : iv 0 1023 y3_7) e1_7 c146 (by have q := c149; rw [hG_7.2.2 9 rfl, hG_7.2.2 27 rfl, hG_7.2.2 28 rfl, hG_7.2.1 0 rfl] at q; exact q) mo154))
          · refine at_if_eq C 42 dX2_fewestWeeks_29 (by decide) (fun c156 => ?_) (fun c156 => absurd (iv_xne (iv_c (c := 0) (x := (0 : Int32)) (by decide)) (iv_c (c := 0) (x := (0 : Int32)) (by decide))) c156)
            refine at_sipush C (1000 : Int32) dX2_fewestWeeks_42 (by decide) ?_
            refine at_iast C (c := 29) rfl (fun f => ac_ast_29 _ _ _ _ f) (iv_in (n := 1024) f145 (by decide) (by decide)) dX2_fewestWeeks_45 ?_
            have hG157 := Gd.sa (c := 29) (i := (y3_7).toNatClampNeg) hG_7 rfl (iv_wk (iv_c (c := 1000) (x := (1000 : Int32)) (by decide)) (by decide) (by decide) : iv 0 1000 (1000 : Int32))
            refine at_iinc C (v := (y3_7 + (-1 : Int32))) (lv' := [(3, .int (y3_7 + (-1 : Int32))), (0, .ref (e_q E 6)), (1, .int x1), (2, .int y2_7)]) 3 dX2_fewestWeeks_46 rfl rfl hn3 rfl ?_
            refine at_goto C 7 dX2_fewestWeeks_49 (by decide) ?_
            exact at_sub [1, 2, 3, 0] rfl (ih7 y2_7 (y3_7 + (-1 : Int32)) (ac_sa s7 29 (upd (ac_ga s7 29) (y3_7).toNatClampNeg (1000 : Int32))) (mz_dn hm7 (mz_m1 f145 (by decide)) (iv_wk (iv_add f145 (iv_c (c := (-1)) (x := (-1 : Int32)) (by decide)) (by decide) (by decide)) (by decide) (by decide) : iv (-1) 1023 (y3_7 + (-1 : Int32))).1) (show iv 0 1023 y2_7 from b2_7) (iv_wk (iv_add f145 (iv_c (c := (-1)) (x := (-1 : Int32)) (by decide)) (by decide) (by decide)) (by decide) (by decide) : iv (-1) 1023 (y3_7 + (-1 : Int32))) hG157 e0_7 (fw_n (iv_wk b2_7 (by decide) (by decide) : iv 0 1023 y2_7) (iv_wk f145 (by decide) (by decide) : iv 0 1023 y3_7) e1_7 c146 (by have q := c149; rw [hG_7.2.2 9 rfl, hG_7.2.2 27 rfl, hG_7.2.2 28 rfl, hG_7.2.1 0 rfl] at q; exact q)))
  refine at_aload_n C 0 dX2_fewestWeeks_0 rfl ?_
  refine at_Vi C (As := []) (st := []) (b := 6) (ci := 2) (ct_X2_toMove σ hI) mb_X2_toMove ml_X2_25 rfl rfl rfl (by decide) rfl (Nat.le_of_ble_eq_true rfl) dX2_fewestWeeks_1 ?_
  rintro r158 _ ⟨rfl, f159, mo160⟩
  refine at_istore_n C (lv' := [(2, .int r158), (0, .ref (e_q E 6)), (1, .int x1)]) dX2_fewestWeeks_4 hn2 rfl ?_
  refine at_iload_n C 0 dX2_fewestWeeks_5 rfl ?_
  refine at_istore_n C (lv' := [(3, .int r158), (2, .int r158), (0, .ref (e_q E 6)), (1, .int x1)]) dX2_fewestWeeks_6 hn3 rfl ?_
  exact at_sub [2, 3, 1, 0] rfl (K7 _ r158 r158 σ (Nat.lt_succ_self _) (show iv 0 1023 r158 from f159) (iv_wk f159 (by decide) (by decide) : iv (-1) 1023 r158) hG0 mo160 (fw_0 (show iv 0 1023 r158 from f159)))
set_option maxHeartbeats 4000000 in
set_option maxRecDepth 100000 in
theorem ct_X2_movedIn (σ : SS) (x1 : Int32) (x2 : Int32) (hI : Inv σ) (g1 : iv 0 999 x1) : ConI yX2_movedIn cX2_movedIn 7 (some .int) 2 (some 6) [.int x1, .int x2] σ (fun r σ' => σ = σ' ∧ iv 0 1023 r ∧ (mv_E (ac_ga σ 29) (tm_f (ac_ga σ 27) (ac_ga σ 28) (ac_gi σ 0).toNatClampNeg).toNatClampNeg x2 x1 r)) := by
  refine conI_of (by decide) (fun q => Nat.le_of_ble_eq_true rfl) (fun E C en hR => ?_)
  have hn3 : 3 < e_n E := by rw [en]; decide
  have hn4 : 4 < e_n E := by rw [en]; decide
  have hn5 : 5 < e_n E := by rw [en]; decide
  have hn6 : 6 < e_n E := by rw [en]; decide
  have K14 : ∀ (n14 : Nat) (y3_14 : Int32) (y4_14 : Int32) (y5_14 : Int32) (y6_14 : Int32), (10 - (y6_14).toInt).toNat < n14 → iv 0 1023 y3_14 → iv 0 1023 y4_14 → iv 0 1023 y5_14 → iv 0 10 y6_14 → (y3_14 = tm_f (ac_ga σ 27) (ac_ga σ 28) (ac_gi σ 0).toNatClampNeg) → (mv_I (ac_ga σ 29) y3_14 x2 y6_14 y4_14 y5_14) → ((y6_14).toInt ≤ (x1).toInt + 1) → AT E 14 [(0, .ref (e_q E 6)), (1, .int x1), (2, .int x2), (3, .int y3_14), (4, .int y4_14), (5, .int y5_14), (6, .int y6_14)] [] σ := by
    intro n14
    induction n14 with
    | zero => intro y3_14 y4_14 y5_14 y6_14 hm; exact absurd hm (Nat.not_lt_zero _)
    | succ n14 ih14 =>
      intro y3_14 y4_14 y5_14 y6_14 hm14 b3_14 b4_14 b5_14 b6_14 e0_14 e1_14 e2_14
      refine at_iload C 6 dX2_movedIn_14 rfl ?_
      refine at_iload_n C 1 dX2_movedIn_16 rfl ?_
      refine at_icmp_gt C 55 dX2_movedIn_17 (by decide) (fun c163 => ?_) (fun c163 => ?_)
      · have f164 : iv 0 9 x1 := (iv_ltl g1 b6_14 c163)
        have f165 : iv 1 10 y6_14 := (iv_ltr g1 b6_14 c163)
        refine at_iload C 5 dX2_movedIn_55 rfl ?_
        exact hR _ _ _ _ dX2_movedIn_57 ⟨rfl, (show iv 0 1023 y5_14 from b5_14), (by have q := mv_x1 (iv_wk f165 (by decide) (by decide) : iv 0 10 y6_14) e1_14 e2_14 c163; rw [e0_14] at q; exact q)⟩
      · refine at_iload C 6 dX2_movedIn_20 rfl ?_
        refine at_bipush C (10 : Int32) dX2_movedIn_22 (by decide) ?_
        refine at_icmp_ge C 55 dX2_movedIn_24 (by decide) (fun c166 => ?_) (fun c166 => ?_)
        · have f167 : iv 10 10 y6_14 := (iv_ler (iv_c (c := 10) (x := (10 : Int32)) (by decide)) b6_14 c166)
          refine at_iload C 5 dX2_movedIn_55 rfl ?_
          exact hR _ _ _ _ dX2_movedIn_57 ⟨rfl, (show iv 0 1023 y5_14 from b5_14), (by have q := mv_x2 (iv_wk f167 (by decide) (by decide) : iv 0 10 y6_14) e1_14 e2_14 c166; rw [e0_14] at q; exact q)⟩
        · have f168 : iv 0 9 y6_14 := (iv_ltl b6_14 (iv_c (c := 10) (x := (10 : Int32)) (by decide)) (Int32.not_le.mp c166))
          refine at_aload_n C 0 dX2_movedIn_27 rfl ?_
          refine at_iload C 4 dX2_movedIn_28 rfl ?_
          refine at_iload_n C 3 dX2_movedIn_30 rfl ?_
          refine at_iload C 4 dX2_movedIn_31 rfl ?_
          refine at_iconst C (-1 : Int32) dX2_movedIn_33 (by decide) ?_
          refine at_ixor C dX2_movedIn_34 ?_
          refine at_iand C dX2_movedIn_35 ?_
          refine at_iload_n C 2 dX2_movedIn_36 rfl ?_
          refine at_Vi C (As := [.int y4_14, .int (y3_14 &&& (y4_14 ^^^ (-1 : Int32))), .int x2]) (st := []) (b := 6) (ci := 2) (ct_X2_firstStep σ y4_14 (y3_14 &&& (y4_14 ^^^ (-1 : Int32))) x2 hI (show iv 0 1023 y4_14 from b4_14) (show iv 0 1023 (y3_14 &&& (y4_14 ^^^ (-1 : Int32))) from (iv_andl b3_14))) mb_X2_firstStep ml_X2_37 rfl rfl rfl (by decide) rfl (Nat.le_of_ble_eq_true rfl) dX2_movedIn_37 ?_
          rintro r169 _ ⟨rfl, f170, mo171⟩
          refine at_istore C (lv' := [(5, .int r169), (0, .ref (e_q E 6)), (1, .int x1), (2, .int x2), (3, .int y3_14), (4, .int y4_14), (6, .int y6_14)]) dX2_movedIn_40 hn5 rfl ?_
          refine at_iload C 5 dX2_movedIn_42 rfl ?_
          refine at_iload C 0 dX2_movedIn_44 rfl ?_
          refine at_ior C dX2_movedIn_46 ?_
          refine at_istore C (lv' := [(4, .int (y4_14 ||| r169)), (5, .int r169), (0, .ref (e_q E 6)), (1, .int x1), (2, .int x2), (3, .int y3_14), (6, .int y6_14)]) dX2_movedIn_47 hn4 rfl ?_
          refine at_iinc C (v := (y6_14 + (1 : Int32))) (lv' := [(6, .int (y6_14 + (1 : Int32))), (4, .int (y4_14 ||| r169)), (5, .int r169), (0, .ref (e_q E 6)), (1, .int x1), (2, .int x2), (3, .int y3_14)]) 6 dX2_movedIn_49 rfl rfl hn6 rfl ?_
          refine at_goto C 14 dX2_movedIn_52 (by decide) ?_
          exact at_sub [3, 4, 5, 6, 1, 2, 0] rfl (ih14 y3_14 (y4_14 ||| r169) r169 (y6_14 + (1 : Int32)) (mz_up hm14 (ac_ti1 f168 (iv_c (c := 1) (x := (1 : Int32)) (by decide)) (by decide) (by decide) (by decide)) (by decide) (iv_wk (iv_add f168 (iv_c (c := 1) (x := (1 : Int32)) (by decide)) (by decide) (by decide)) (by decide) (by decide) : iv 0 10 (y6_14 + (1 : Int32))).2) (show iv 0 1023 y3_14 from b3_14) (show iv 0 1023 (y4_14 ||| r169) from (iv_or 10 b4_14 f170 (by decide) (by decide) (by decide))) (show iv 0 1023 r169 from f170) (iv_wk (iv_add f168 (iv_c (c := 1) (x := (1 : Int32)) (by decide)) (by decide) (by decide)) (by decide) (by decide) : iv 0 10 (y6_14 + (1 : Int32))) e0_14 (mv_s (iv_wk b3_14 (by decide) (by decide) : iv 0 1023 y3_14) (iv_wk b4_14 (by decide) (by decide) : iv 0 1023 y4_14) (iv_wk f168 (by decide) (by decide) : iv 0 9 y6_14) (iv_wk f170 (by decide) (by decide) : iv 0 1023 r169) e1_14 mo171) (by have q := iv_le (Int32.not_lt.mp c163); have q2 := ac_ti1 (iv_wk f168 (by decide) (by decide) : iv 0 9 y6_14) (iv_c (c := 1) (x := (1 : Int32)) (by decide)) (by decide) (by decide) (by decide); omega))
  refine at_aload_n C 0 dX2_movedIn_0 rfl ?_
  refine at_Vi C (As := []) (st := []) (b := 6) (ci := 2) (ct_X2_toMove σ hI) mb_X2_toMove ml_X2_25 rfl rfl rfl (by decide) rfl (Nat.le_of_ble_eq_true rfl) dX2_movedIn_1 ?_
  rintro r172 _ ⟨rfl, f173, mo174⟩
  refine at_istore_n C (lv' := [(3, .int r172), (0, .ref (e_q E 6)), (1, .int x1), (2, .int x2)]) dX2_movedIn_4 hn3 rfl ?_
  refine at_iconst C (0 : Int32) dX2_movedIn_5 (by decide) ?_
  refine at_istore C (lv' := [(4, .int (0 : Int32)), (3, .int r172), (0, .ref (e_q E 6)), (1, .int x1), (2, .int x2)]) dX2_movedIn_6 hn4 rfl ?_
  refine at_iconst C (0 : Int32) dX2_movedIn_8 (by decide) ?_
  refine at_istore C (lv' := [(5, .int (0 : Int32)), (4, .int (0 : Int32)), (3, .int r172), (0, .ref (e_q E 6)), (1, .int x1), (2, .int x2)]) dX2_movedIn_9 hn5 rfl ?_
  refine at_iconst C (0 : Int32) dX2_movedIn_11 (by decide) ?_
  refine at_istore C (lv' := [(6, .int (0 : Int32)), (5, .int (0 : Int32)), (4, .int (0 : Int32)), (3, .int r172), (0, .ref (e_q E 6)), (1, .int x1), (2, .int x2)]) dX2_movedIn_12 hn6 rfl ?_
  exact at_sub [4, 5, 6, 3, 2, 1, 0] rfl (K14 _ r172 (0 : Int32) (0 : Int32) (0 : Int32) (Nat.lt_succ_self _) (show iv 0 1023 r172 from f173) (iv_wk (iv_c (c := 0) (x := (0 : Int32)) (by decide)) (by decide) (by decide) : iv 0 1023 (0 : Int32)) (iv_wk (iv_c (c := 0) (x := (0 : Int32)) (by decide)) (by decide) (by decide) : iv 0 1023 (0 : Int32)) (iv_wk (iv_c (c := 0) (x := (0 : Int32)) (by decide)) (by decide) (by decide) : iv 0 10 (0 : Int32)) mo174 mv_0 (by have q := g1.1; have q2 : (0 : Int32).toInt = 0 := (by decide); omega))
set_option maxHeartbeats 4000000 in
set_option maxRecDepth 100000 in
theorem ct_X2_brokenBy (σ : SS) (x1 : Int32) (x2 : Int32) (hI : Inv σ) : ConI yX2_brokenBy cX2_brokenBy 5 (some .int) 1 (some 6) [.int x1, .int x2] σ (fun r σ' => σ = σ' ∧ iv (-2147483648) 2147483647 r) := by
  refine conI_of (by decide) (fun q => Nat.le_of_ble_eq_true rfl) (fun E C en hR => ?_)
  have hn3 : 3 < e_n E := by rw [en]; decide
  have hn4 : 4 < e_n E := by rw [en]; decide
  have K5 : ∀ (n5 : Nat) (y3_5 : Int32) (y4_5 : Int32), (10 - (y4_5).toInt).toNat < n5 → iv 0 1023 y3_5 → iv 0 10 y4_5 → AT E 5 [(0, .ref (e_q E 6)), (1, .int x1), (2, .int x2), (3, .int y3_5), (4, .int y4_5)] [] σ := by
    intro n5
    induction n5 with
    | zero => intro y3_5 y4_5 hm; exact absurd hm (Nat.not_lt_zero _)
    | succ n5 ih5 =>
      intro y3_5 y4_5 hm5 b3_5 b4_5
      refine at_iload C 4 dX2_brokenBy_5 rfl ?_
      refine at_aload_n C 0 dX2_brokenBy_7 rfl ?_
      refine gf_X2_21 C dX2_brokenBy_8 ?_
      refine gf_X2_40 C dX2_brokenBy_11 ?_
      refine at_icmp_ge C 60 dX2_brokenBy_14 (by decide) (fun c181 => ?_) (fun c181 => ?_)
      · refine at_iload_n C 3 dX2_brokenBy_60 rfl ?_
        exact hR _ _ _ _ dX2_brokenBy_61 ⟨rfl, (iv_wk b3_5 (by decide) (by decide) : iv (-2147483648) 2147483647 y3_5)⟩
      · have f182 : iv 0 9 y4_5 := (iv_ltl b4_5 (show iv 0 10 (ac_gi σ 0) from hI.1 0) (Int32.not_le.mp c181))
        have f183 : iv 1 10 (ac_gi σ 0) := (iv_ltr b4_5 (show iv 0 10 (ac_gi σ 0) from hI.1 0) (Int32.not_le.mp c181))
        refine at_iload C 4 dX2_brokenBy_17 rfl ?_
        refine at_iload_n C 1 dX2_brokenBy_19 rfl ?_
        refine at_icmp_eq C 54 dX2_brokenBy_20 (by decide) (fun c184 => ?_) (fun c184 => ?_)
        · have f185 : iv 0 9 x1 := (iv_eqr f182 c184)
          refine at_iinc C (v := (y4_5 + (1 : Int32))) (lv' := [(4, .int (y4_5 + (1 : Int32))), (0, .ref (e_q E 6)), (1, .int x1), (2, .int x2), (3, .int y3_5)]) 4 dX2_brokenBy_54 rfl rfl hn4 rfl ?_
          refine at_goto C 5 dX2_brokenBy_57 (by decide) ?_
          exact at_sub [1, 2, 3, 4, 0] rfl (ih5 y3_5 (y4_5 + (1 : Int32)) (mz_up hm5 (ac_ti1 f182 (iv_c (c := 1) (x := (1 : Int32)) (by decide)) (by decide) (by decide) (by decide)) (by decide) (iv_wk (iv_add f182 (iv_c (c := 1) (x := (1 : Int32)) (by decide)) (by decide) (by decide)) (by decide) (by decide) : iv 0 10 (y4_5 + (1 : Int32))).2) (show iv 0 1023 y3_5 from b3_5) (iv_wk (iv_add f182 (iv_c (c := 1) (x := (1 : Int32)) (by decide)) (by decide) (by decide)) (by decide) (by decide) : iv 0 10 (y4_5 + (1 : Int32))))
        · refine at_aload_n C 0 dX2_brokenBy_23 rfl ?_
          refine gf_X2_21 C dX2_brokenBy_24 ?_
          refine at_iload_n C 1 dX2_brokenBy_27 rfl ?_
          refine at_iload C 4 dX2_brokenBy_28 rfl ?_
          refine at_aload_n C 0 dX2_brokenBy_30 rfl ?_
          refine gf_X2_15 C dX2_brokenBy_31 ?_
          refine at_iload C 4 dX2_brokenBy_34 rfl ?_
          refine at_iald C (c := 28) rfl (iv_in (n := 10) f182 (by decide) (by decide)) dX2_brokenBy_36 ?_
          refine at_Vi C (As := [.int x1, .int y4_5, .int (ac_ga σ 28 (y4_5).toNatClampNeg)]) (st := []) (b := 1) (ci := 0) (ct_X0_shutFor σ x1 y4_5 (ac_ga σ 28 (y4_5).toNatClampNeg) hI) mb_X0_shutFor ml_X2_46 rfl rfl rfl (by decide) rfl (Nat.le_of_ble_eq_true rfl) dX2_brokenBy_37 ?_
          rintro r186 _ ⟨rfl, f187, mo188⟩
          refine at_iload_n C 2 dX2_brokenBy_40 rfl ?_
          refine at_Ni C (As := [.int r186, .int x2]) (st := []) (ct_X6_has σ r186 x2) mb_X6_has ml_X2_49 rfl (by decide) rfl (Nat.le_of_ble_eq_true rfl) dX2_brokenBy_41 ?_
          rintro _ _ ⟨rfl, ⟨rfl, c189⟩ | ⟨rfl, c189⟩⟩
          · refine at_if_eq C 54 dX2_brokenBy_44 (by decide) (fun c191 => absurd c191 (iv_xeq (iv_c (c := 1) (x := (1 : Int32)) (by decide)) (iv_c (c := 0) (x := (0 : Int32)) (by decide)) (by decide))) (fun c191 => ?_)
            refine at_iload_n C 3 dX2_brokenBy_47 rfl ?_
            refine at_iconst C (1 : Int32) dX2_brokenBy_48 (by decide) ?_
            refine at_iload C 4 dX2_brokenBy_49 rfl ?_
            refine at_ishl C dX2_brokenBy_51 ?_
            refine at_ior C dX2_brokenBy_52 ?_
            refine at_istore_n C (lv' := [(3, .int (y3_5 ||| ((1 : Int32) <<< (y4_5 &&& 31)))), (0, .ref (e_q E 6)), (1, .int x1), (2, .int x2), (4, .int y4_5)]) dX2_brokenBy_53 hn3 rfl ?_
            refine at_iinc C (v := (y4_5 + (1 : Int32))) (lv' := [(4, .int (y4_5 + (1 : Int32))), (3, .int (y3_5 ||| ((1 : Int32) <<< (y4_5 &&& 31)))), (0, .ref (e_q E 6)), (1, .int x1), (2, .int x2)]) 4 dX2_brokenBy_54 rfl rfl hn4 rfl ?_
            refine at_goto C 5 dX2_brokenBy_57 (by decide) ?_
            exact at_sub [2, 3, 4, 1, 0] rfl (ih5 (y3_5 ||| ((1 : Int32) <<< (y4_5 &&& 31))) (y4_5 + (1 : Int32)) (mz_up hm5 (ac_ti1 f182 (iv_c (c := 1) (x := (1 : Int32)) (by decide)) (by decide) (by decide) (by decide)) (by decide) (iv_wk (iv_add f182 (iv_c (c := 1) (x := (1 : Int32)) (by decide)) (by decide) (by decide)) (by decide) (by decide) : iv 0 10 (y4_5 + (1 : Int32))).2) (show iv 0 1023 (y3_5 ||| ((1 : Int32) <<< (y4_5 &&& 31))) from (iv_or 10 b3_5 (iv_wk (c := 0) (iv_shl1 (a := 0) (b := 9) f182 (by decide)) (by decide) (Int.le_refl _)) (by decide) (by decide) (by decide))) (iv_wk (iv_add f182 (iv_c (c := 1) (x := (1 : Int32)) (by decide)) (by decide) (by decide)) (by decide) (by decide) : iv 0 10 (y4_5 + (1 : Int32))))
          · refine at_if_eq C 54 dX2_brokenBy_44 (by decide) (fun c192 => ?_) (fun c192 => absurd (iv_xne (iv_c (c := 0) (x := (0 : Int32)) (by decide)) (iv_c (c := 0) (x := (0 : Int32)) (by decide))) c192)
            refine at_iinc C (v := (y4_5 + (1 : Int32))) (lv' := [(4, .int (y4_5 + (1 : Int32))), (0, .ref (e_q E 6)), (1, .int x1), (2, .int x2), (3, .int y3_5)]) 4 dX2_brokenBy_54 rfl rfl hn4 rfl ?_
            refine at_goto C 5 dX2_brokenBy_57 (by decide) ?_
            exact at_sub [1, 2, 3, 4, 0] rfl (ih5 y3_5 (y4_5 + (1 : Int32)) (mz_up hm5 (ac_ti1 f182 (iv_c (c := 1) (x := (1 : Int32)) (by decide)) (by decide) (by decide) (by decide)) (by decide) (iv_wk (iv_add f182 (iv_c (c := 1) (x := (1 : Int32)) (by decide)) (by decide) (by decide)) (by decide) (by decide) : iv 0 10 (y4_5 + (1 : Int32))).2) (show iv 0 1023 y3_5 from b3_5) (iv_wk (iv_add f182 (iv_c (c := 1) (x := (1 : Int32)) (by decide)) (by decide) (by decide)) (by decide) (by decide) : iv 0 10 (y4_5 + (1 : Int32))))
  refine at_iconst C (0 : Int32) dX2_brokenBy_0 (by decide) ?_
  refine at_istore_n C (lv' := [(3, .int (0 : Int32)), (0, .ref (e_q E 6)), (1, .int x1), (2, .int x2)]) dX2_brokenBy_1 hn3 rfl ?_
  refine at_iconst C (0 : Int32) dX2_brokenBy_2 (by decide) ?_
  refine at_istore C (lv' := [(4, .int (0 : Int32)), (3, .int (0 : Int32)), (0, .ref (e_q E 6)), (1, .int x1), (2, .int x2)]) dX2_brokenBy_3 hn4 rfl ?_
  exact at_sub [2, 3, 4, 1, 0] rfl (K5 _ (0 : Int32) (0 : Int32) (Nat.lt_succ_self _) (iv_wk (iv_c (c := 0) (x := (0 : Int32)) (by decide)) (by decide) (by decide) : iv 0 1023 (0 : Int32)) (iv_wk (iv_c (c := 0) (x := (0 : Int32)) (by decide)) (by decide) (by decide) : iv 0 10 (0 : Int32)))
set_option maxHeartbeats 4000000 in
set_option maxRecDepth 100000 in
theorem ct_X2_freeFor (σ : SS) (x1 : Int32) (hI : Inv σ) : ConI yX2_freeFor cX2_freeFor 4 (some .int) 1 (some 6) [.int x1] σ (fun r σ' => σ = σ' ∧ iv (-2147483648) 2147483647 r) := by
  refine conI_of (by decide) (fun q => Nat.le_of_ble_eq_true rfl) (fun E C en hR => ?_)
  have hn2 : 2 < e_n E := by rw [en]; decide
  have hn3 : 3 < e_n E := by rw [en]; decide
  have K11 : ∀ (n11 : Nat) (y2_11 : Int32) (y3_11 : Int32), (10 - (y3_11).toInt).toNat < n11 → iv 0 63 y2_11 → iv 0 10 y3_11 → AT E 11 [(0, .ref (e_q E 6)), (1, .int x1), (2, .int y2_11), (3, .int y3_11)] [] σ := by
    intro n11
    induction n11 with
    | zero => intro y2_11 y3_11 hm; exact absurd hm (Nat.not_lt_zero _)
    | succ n11 ih11 =>
      intro y2_11 y3_11 hm11 b2_11 b3_11
      refine at_iload_n C 3 dX2_freeFor_11 rfl ?_
      refine at_aload_n C 0 dX2_freeFor_12 rfl ?_
      refine gf_X2_21 C dX2_freeFor_13 ?_
      refine gf_X2_40 C dX2_freeFor_16 ?_
      refine at_icmp_ge C 53 dX2_freeFor_19 (by decide) (fun c151 => ?_) (fun c151 => ?_)
      · refine at_iload_n C 2 dX2_freeFor_53 rfl ?_
        exact hR _ _ _ _ dX2_freeFor_54 ⟨rfl, (iv_wk b2_11 (by decide) (by decide) : iv (-2147483648) 2147483647 y2_11)⟩
      · have f152 : iv 0 9 y3_11 := (iv_ltl b3_11 (show iv 0 10 (ac_gi σ 0) from hI.1 0) (Int32.not_le.mp c151))
        have f153 : iv 1 10 (ac_gi σ 0) := (iv_ltr b3_11 (show iv 0 10 (ac_gi σ 0) from hI.1 0) (Int32.not_le.mp c151))
        refine at_iload_n C 3 dX2_freeFor_22 rfl ?_
        refine at_iload_n C 1 dX2_freeFor_23 rfl ?_
        refine at_icmp_eq C 47 dX2_freeFor_24 (by decide) (fun c154 => ?_) (fun c154 => ?_)
        · have f155 : iv 0 9 x1 := (iv_eqr f152 c154)
          refine at_iinc C (v := (y3_11 + (1 : Int32))) (lv' := [(3, .int (y3_11 + (1 : Int32))), (0, .ref (e_q E 6)), (1, .int x1), (2, .int y2_11)]) 3 dX2_freeFor_47 rfl rfl hn3 rfl ?_
          refine at_goto C 11 dX2_freeFor_50 (by decide) ?_
          exact at_sub [1, 2, 3, 0] rfl (ih11 y2_11 (y3_11 + (1 : Int32)) (mz_up hm11 (ac_ti1 f152 (iv_c (c := 1) (x := (1 : Int32)) (by decide)) (by decide) (by decide) (by decide)) (by decide) (iv_wk (iv_add f152 (iv_c (c := 1) (x := (1 : Int32)) (by decide)) (by decide) (by decide)) (by decide) (by decide) : iv 0 10 (y3_11 + (1 : Int32))).2) (show iv 0 63 y2_11 from b2_11) (iv_wk (iv_add f152 (iv_c (c := 1) (x := (1 : Int32)) (by decide)) (by decide) (by decide)) (by decide) (by decide) : iv 0 10 (y3_11 + (1 : Int32))))
        · refine at_iload_n C 2 dX2_freeFor_27 rfl ?_
          refine at_aload_n C 0 dX2_freeFor_28 rfl ?_
          refine gf_X2_21 C dX2_freeFor_29 ?_
          refine at_iload_n C 1 dX2_freeFor_32 rfl ?_
          refine at_iload_n C 3 dX2_freeFor_33 rfl ?_
          refine at_aload_n C 0 dX2_freeFor_34 rfl ?_
          refine gf_X2_15 C dX2_freeFor_35 ?_
          refine at_iload_n C 3 dX2_freeFor_38 rfl ?_
          refine at_iald C (c := 28) rfl (iv_in (n := 10) f152 (by decide) (by decide)) dX2_freeFor_39 ?_
          refine at_Vi C (As := [.int x1, .int y3_11, .int (ac_ga σ 28 (y3_11).toNatClampNeg)]) (st := [.int y2_11]) (b := 1) (ci := 0) (ct_X0_shutFor σ x1 y3_11 (ac_ga σ 28 (y3_11).toNatClampNeg) hI) mb_X0_shutFor ml_X2_46 rfl rfl rfl (by decide) rfl (Nat.le_of_ble_eq_true rfl) dX2_freeFor_40 ?_
          rintro r156 _ ⟨rfl, f157, mo158⟩
          refine at_iconst C (-1 : Int32) dX2_freeFor_43 (by decide) ?_
          refine at_ixor C dX2_freeFor_44 ?_
          refine at_iand C dX2_freeFor_45 ?_
          refine at_istore_n C (lv' := [(2, .int (y2_11 &&& (r156 ^^^ (-1 : Int32)))), (0, .ref (e_q E 6)), (1, .int x1), (3, .int y3_11)]) dX2_freeFor_46 hn2 rfl ?_
          refine at_iinc C (v := (y3_11 + (1 : Int32))) (lv' := [(3, .int (y3_11 + (1 : Int32))), (2, .int (y2_11 &&& (r156 ^^^ (-1 : Int32)))), (0, .ref (e_q E 6)), (1, .int x1)]) 3 dX2_freeFor_47 rfl rfl hn3 rfl ?_
          refine at_goto C 11 dX2_freeFor_50 (by decide) ?_
          exact at_sub [2, 3, 1, 0] rfl (ih11 (y2_11 &&& (r156 ^^^ (-1 : Int32))) (y3_11 + (1 : Int32)) (mz_up hm11 (ac_ti1 f152 (iv_c (c := 1) (x := (1 : Int32)) (by decide)) (by decide) (by decide) (by decide)) (by decide) (iv_wk (iv_add f152 (iv_c (c := 1) (x := (1 : Int32)) (by decide)) (by decide) (by decide)) (by decide) (by decide) : iv 0 10 (y3_11 + (1 : Int32))).2) (show iv 0 63 (y2_11 &&& (r156 ^^^ (-1 : Int32))) from (iv_andl b2_11)) (iv_wk (iv_add f152 (iv_c (c := 1) (x := (1 : Int32)) (by decide)) (by decide) (by decide)) (by decide) (by decide) : iv 0 10 (y3_11 + (1 : Int32))))
  refine at_aload_n C 0 dX2_freeFor_0 rfl ?_
  refine gf_X2_21 C dX2_freeFor_1 ?_
  refine at_iload_n C 1 dX2_freeFor_4 rfl ?_
  refine at_Vi C (As := [.int x1]) (st := []) (b := 1) (ci := 0) (ct_X0_mayHave σ x1 hI) mb_X0_mayHave ml_X2_53 rfl rfl rfl (by decide) rfl (Nat.le_of_ble_eq_true rfl) dX2_freeFor_5 ?_
  rintro r159 _ ⟨rfl, f160⟩
  refine at_istore_n C (lv' := [(2, .int r159), (0, .ref (e_q E 6)), (1, .int x1)]) dX2_freeFor_8 hn2 rfl ?_
  refine at_iconst C (0 : Int32) dX2_freeFor_9 (by decide) ?_
  refine at_istore_n C (lv' := [(3, .int (0 : Int32)), (2, .int r159), (0, .ref (e_q E 6)), (1, .int x1)]) dX2_freeFor_10 hn3 rfl ?_
  exact at_sub [2, 3, 1, 0] rfl (K11 _ r159 (0 : Int32) (Nat.lt_succ_self _) (show iv 0 63 r159 from f160) (iv_wk (iv_c (c := 0) (x := (0 : Int32)) (by decide)) (by decide) (by decide) : iv 0 10 (0 : Int32)))
