set_option maxHeartbeats 4000000 in
set_option maxRecDepth 100000 in
theorem ct_X7_paidAll (σ : SS) (hI : Inv σ) : ConI yX7_paidAll cX7_paidAll 3 (some .int) 0 (some 30) [] σ (fun r σ' => σ = σ' ∧ iv (-2147483648) 2147483647 r) := by
  refine conI_of (by decide) (fun q => Nat.le_of_ble_eq_true rfl) (fun E C en hR => ?_)
  have hn1 : 1 < e_n E := by rw [en]; decide
  have hn2 : 2 < e_n E := by rw [en]; decide
  have K4 : ∀ (n4 : Nat) (y1_4 : Int32) (y2_4 : Int32), (10 - (y2_4).toInt).toNat < n4 → iv (-2147483648) 2147483647 y1_4 → iv 0 10 y2_4 → AT E 4 [(0, .ref (e_q E 30)), (1, .int y1_4), (2, .int y2_4)] [] σ := by
    intro n4
    induction n4 with
    | zero => intro y1_4 y2_4 hm; exact absurd hm (Nat.not_lt_zero _)
    | succ n4 ih4 =>
      intro y1_4 y2_4 hm4 b1_4 b2_4
      refine at_iload_n C 2 dX7_paidAll_4 rfl ?_
      refine at_aload_n C 0 dX7_paidAll_5 rfl ?_
      refine gf_X7_87 C dX7_paidAll_6 ?_
      refine at_icmp_ge C 43 dX7_paidAll_9 (by decide) (fun c91 => ?_) (fun c91 => ?_)
      · refine at_iload_n C 1 dX7_paidAll_43 rfl ?_
        exact hR _ _ _ _ dX7_paidAll_44 ⟨rfl, (show iv (-2147483648) 2147483647 y1_4 from b1_4)⟩
      · have f92 : iv 0 9 y2_4 := (iv_ltl b2_4 (show iv 0 10 (ac_gi σ 15) from hI.1 15) (Int32.not_le.mp c91))
        have f93 : iv 1 10 (ac_gi σ 15) := (iv_ltr b2_4 (show iv 0 10 (ac_gi σ 15) from hI.1 15) (Int32.not_le.mp c91))
        refine at_iload_n C 1 dX7_paidAll_12 rfl ?_
        refine at_aload_n C 0 dX7_paidAll_13 rfl ?_
        refine gf_X7_160 C dX7_paidAll_14 ?_
        refine at_iload_n C 2 dX7_paidAll_17 rfl ?_
        refine at_ishr C dX7_paidAll_18 ?_
        refine at_iconst C (1 : Int32) dX7_paidAll_19 (by decide) ?_
        refine at_iand C dX7_paidAll_20 ?_
        refine at_iconst C (1 : Int32) dX7_paidAll_21 (by decide) ?_
        refine at_icmp_ne C 34 dX7_paidAll_22 (by decide) (fun c94 => ?_) (fun c94 => ?_)
        · have f95 : iv 0 0 (((ac_gi σ 23) >>> (y2_4 &&& 31)) &&& (1 : Int32)) := (iv_neh (iv_andr (iv_wk (c := 0) (iv_c (c := 1) (x := (1 : Int32)) (by decide)) (by decide) (Int.le_refl _))) (by decide) c94)
          refine at_iconst C (0 : Int32) dX7_paidAll_34 (by decide) ?_
          refine at_iadd C dX7_paidAll_35 ?_
          refine at_istore_n C (lv' := [(1, .int (y1_4 + (0 : Int32))), (0, .ref (e_q E 30)), (2, .int y2_4)]) dX7_paidAll_36 hn1 rfl ?_
          refine at_iinc C (v := (y2_4 + (1 : Int32))) (lv' := [(2, .int (y2_4 + (1 : Int32))), (1, .int (y1_4 + (0 : Int32))), (0, .ref (e_q E 30))]) 2 dX7_paidAll_37 rfl rfl hn2 rfl ?_
          refine at_goto C 4 dX7_paidAll_40 (by decide) ?_
          exact at_sub [2, 1, 0] rfl (ih4 (y1_4 + (0 : Int32)) (y2_4 + (1 : Int32)) (mz_up hm4 (ac_ti1 f92 (iv_c (c := 1) (x := (1 : Int32)) (by decide)) (by decide) (by decide) (by decide)) (by decide) (iv_wk (iv_add f92 (iv_c (c := 1) (x := (1 : Int32)) (by decide)) (by decide) (by decide)) (by decide) (by decide) : iv 0 10 (y2_4 + (1 : Int32))).2) (show iv (-2147483648) 2147483647 (y1_4 + (0 : Int32)) from (iv_add b1_4 (iv_c (c := 0) (x := (0 : Int32)) (by decide)) (by decide) (by decide))) (iv_wk (iv_add f92 (iv_c (c := 1) (x := (1 : Int32)) (by decide)) (by decide) (by decide)) (by decide) (by decide) : iv 0 10 (y2_4 + (1 : Int32))))
        · have f96 : iv 1 1 (((ac_gi σ 23) >>> (y2_4 &&& 31)) &&& (1 : Int32)) := (iv_eql (iv_c (c := 1) (x := (1 : Int32)) (by decide)) c94)
          refine at_aload_n C 0 dX7_paidAll_25 rfl ?_
          refine gf_X7_48 C dX7_paidAll_26 ?_
          refine at_iload_n C 2 dX7_paidAll_29 rfl ?_
          refine at_iald C (c := 39) rfl (iv_in (n := 10) f92 (by decide) (by decide)) dX7_paidAll_30 ?_
          refine at_goto C 35 dX7_paidAll_31 (by decide) ?_
          refine at_iadd C dX7_paidAll_35 ?_
          refine at_istore_n C (lv' := [(1, .int (y1_4 + (ac_ga σ 39 (y2_4).toNatClampNeg))), (0, .ref (e_q E 30)), (2, .int y2_4)]) dX7_paidAll_36 hn1 rfl ?_
          refine at_iinc C (v := (y2_4 + (1 : Int32))) (lv' := [(2, .int (y2_4 + (1 : Int32))), (1, .int (y1_4 + (ac_ga σ 39 (y2_4).toNatClampNeg))), (0, .ref (e_q E 30))]) 2 dX7_paidAll_37 rfl rfl hn2 rfl ?_
          refine at_goto C 4 dX7_paidAll_40 (by decide) ?_
          exact at_sub [2, 1, 0] rfl (ih4 (y1_4 + (ac_ga σ 39 (y2_4).toNatClampNeg)) (y2_4 + (1 : Int32)) (mz_up hm4 (ac_ti1 f92 (iv_c (c := 1) (x := (1 : Int32)) (by decide)) (by decide) (by decide) (by decide)) (by decide) (iv_wk (iv_add f92 (iv_c (c := 1) (x := (1 : Int32)) (by decide)) (by decide) (by decide)) (by decide) (by decide) : iv 0 10 (y2_4 + (1 : Int32))).2) (show iv (-2147483648) 2147483647 (y1_4 + (ac_ga σ 39 (y2_4).toNatClampNeg)) from (iv_any (y1_4 + (ac_ga σ 39 (y2_4).toNatClampNeg)))) (iv_wk (iv_add f92 (iv_c (c := 1) (x := (1 : Int32)) (by decide)) (by decide) (by decide)) (by decide) (by decide) : iv 0 10 (y2_4 + (1 : Int32))))
  refine at_iconst C (0 : Int32) dX7_paidAll_0 (by decide) ?_
  refine at_istore_n C (lv' := [(1, .int (0 : Int32)), (0, .ref (e_q E 30))]) dX7_paidAll_1 hn1 rfl ?_
  refine at_iconst C (0 : Int32) dX7_paidAll_2 (by decide) ?_
  refine at_istore_n C (lv' := [(2, .int (0 : Int32)), (1, .int (0 : Int32)), (0, .ref (e_q E 30))]) dX7_paidAll_3 hn2 rfl ?_
  exact at_sub [2, 1, 0] rfl (K4 _ (0 : Int32) (0 : Int32) (Nat.lt_succ_self _) (iv_wk (iv_c (c := 0) (x := (0 : Int32)) (by decide)) (by decide) (by decide) : iv (-2147483648) 2147483647 (0 : Int32)) (iv_wk (iv_c (c := 0) (x := (0 : Int32)) (by decide)) (by decide) (by decide) : iv 0 10 (0 : Int32)))
set_option maxHeartbeats 4000000 in
set_option maxRecDepth 100000 in
theorem ct_X7_run (σ : SS) (x1 : Int32) (hI : Inv σ) : ConI yX7_run cX7_run 2 (some .int) 4 (some 30) [.int x1] σ (fun r σ' => Gd σ σ' ∧ iv (-2147483648) 2147483647 r) := by
  refine conI_of (by decide) (fun q => Nat.le_of_ble_eq_true rfl) (fun E C en hR => ?_)
  have hG0 : Gd σ σ := Gd.rf hI
  refine at_iload_n C 1 dX7_run_0 rfl ?_
  refine at_i2l C dX7_run_1 ?_
  refine at_lconst C (0 : Int64) dX7_run_2 (by decide) ?_
  refine at_ldc2 C (3 : Int64) dX7_run_3 kc_X7_166 ?_
  refine at_Si C (As := [.long (x1).toInt64, .long (0 : Int64), .long (3 : Int64)]) (st := []) (ct_X7_in σ (x1).toInt64 (0 : Int64) (3 : Int64)) mb_X7_in ml_X7_90 rfl (by decide) rfl (Nat.le_of_ble_eq_true rfl) dX7_run_6 ?_
  rintro _ _ ⟨rfl, ⟨rfl, c134⟩ | ⟨rfl, c134⟩⟩
  · have f136 : iv 0 3 x1 := (in_iv c134 (by decide) (by decide))
    refine at_if_ne C 15 dX7_run_9 (by decide) (fun c137 => ?_) (fun c137 => absurd c137 (iv_xeq (iv_c (c := 1) (x := (1 : Int32)) (by decide)) (iv_c (c := 0) (x := (0 : Int32)) (by decide)) (by decide)))
    refine at_aload_n C 0 dX7_run_15 rfl ?_
    refine at_iconst C (-1 : Int32) dX7_run_16 (by decide) ?_
    refine at_iconst C (0 : Int32) dX7_run_17 (by decide) ?_
    refine at_Vv C (As := [.int (-1 : Int32), .int (0 : Int32)]) (st := []) (b := 30) (ci := 7) (ct_X7_goDown σ (-1 : Int32) (0 : Int32) hI) mb_X7_goDown ml_X7_168 rfl rfl rfl (by decide) rfl (Nat.le_of_ble_eq_true rfl) dX7_run_18 ?_
    rintro u138 hg139
    have hG140 := hG0.tr hg139
    refine at_iload_n C 1 dX7_run_21 rfl ?_
    refine at_if_ne C 32 dX7_run_22 (by decide) (fun c141 => ?_) (fun c141 => ?_)
    · have f142 : iv 1 3 x1 := (iv_nel f136 (by decide) c141)
      refine at_iload_n C 1 dX7_run_32 rfl ?_
      refine at_iconst C (1 : Int32) dX7_run_33 (by decide) ?_
      refine at_icmp_ne C 44 dX7_run_34 (by decide) (fun c143 => ?_) (fun c143 => ?_)
      · have f144 : iv 2 3 x1 := (iv_nel f142 (by decide) c143)
        refine at_iload_n C 1 dX7_run_44 rfl ?_
        refine at_iconst C (2 : Int32) dX7_run_45 (by decide) ?_
        refine at_icmp_ne C 56 dX7_run_46 (by decide) (fun c145 => ?_) (fun c145 => ?_)
        · have f146 : iv 3 3 x1 := (iv_nel f144 (by decide) c145)
          refine at_aload_n C 0 dX7_run_56 rfl ?_
          refine at_Vi C (As := []) (st := []) (b := 30) (ci := 7) (ct_X7_paidAll u138 hg139.1) mb_X7_paidAll ml_X7_172 rfl rfl rfl (by decide) rfl (Nat.le_of_ble_eq_true rfl) dX7_run_57 ?_
          rintro r147 _ ⟨rfl, f148⟩
          exact hR _ _ _ _ dX7_run_60 ⟨hG140, (show iv (-2147483648) 2147483647 r147 from f148)⟩
        · have f149 : iv 2 2 x1 := (iv_eql (iv_c (c := 2) (x := (2 : Int32)) (by decide)) c145)
          refine at_aload_n C 0 dX7_run_49 rfl ?_
          refine gf_X7_163 C dX7_run_50 ?_
          refine at_goto C 60 dX7_run_53 (by decide) ?_
          exact hR _ _ _ _ dX7_run_60 ⟨hG140, (show iv (-2147483648) 2147483647 (ac_gi u138 24) from (iv_any (ac_gi u138 24)))⟩
      · have f150 : iv 1 1 x1 := (iv_eql (iv_c (c := 1) (x := (1 : Int32)) (by decide)) c143)
        refine at_aload_n C 0 dX7_run_37 rfl ?_
        refine gf_X7_160 C dX7_run_38 ?_
        refine at_goto C 60 dX7_run_41 (by decide) ?_
        exact hR _ _ _ _ dX7_run_60 ⟨hG140, (iv_wk (show iv 0 1023 (ac_gi u138 23) from hg139.1.1 23) (by decide) (by decide) : iv (-2147483648) 2147483647 (ac_gi u138 23))⟩
    · have f151 : iv 0 0 x1 := (iv_eql (iv_c (c := 0) (x := (0 : Int32)) (by decide)) c141)
      refine at_aload_n C 0 dX7_run_25 rfl ?_
      refine gf_X7_157 C dX7_run_26 ?_
      refine at_goto C 60 dX7_run_29 (by decide) ?_
      exact hR _ _ _ _ dX7_run_60 ⟨hG140, (iv_wk (show iv 0 1023 (ac_gi u138 22) from hg139.1.1 22) (by decide) (by decide) : iv (-2147483648) 2147483647 (ac_gi u138 22))⟩
  · refine at_if_ne C 15 dX7_run_9 (by decide) (fun c152 => absurd (iv_xne (iv_c (c := 0) (x := (0 : Int32)) (by decide)) (iv_c (c := 0) (x := (0 : Int32)) (by decide))) c152) (fun c152 => ?_)
    refine at_bipush C (-2 : Int32) dX7_run_12 (by decide) ?_
    exact hR _ _ _ _ dX7_run_14 ⟨hG0, (iv_wk (iv_c (c := (-2)) (x := (-2 : Int32)) (by decide)) (by decide) (by decide) : iv (-2147483648) 2147483647 (-2 : Int32))⟩
set_option maxHeartbeats 4000000 in
set_option maxRecDepth 100000 in
theorem ct_X7_noOld (σ : SS) (x1 : Int32) (hI : Inv σ) : ConI yX7_noOld cX7_noOld 2 (some .boolean) 2 (some 30) [.int x1] σ (fun r σ' => σ = σ' ∧ ((r = 1 ∧ (¬ ((0 ≤ (x1).toInt ∧ (x1).toInt < (ac_gi σ 15).toInt) ∧ ¬ (ac_ga σ 36 (x1).toNatClampNeg) = 0))) ∨ (r = 0 ∧ ¬ (¬ ((0 ≤ (x1).toInt ∧ (x1).toInt < (ac_gi σ 15).toInt) ∧ ¬ (ac_ga σ 36 (x1).toNatClampNeg) = 0))))) := by
  refine conZ_of (by decide) (fun q => Nat.le_of_ble_eq_true rfl) (fun r u h => by rcases h.2 with h | h; exact Or.inr h.1; exact Or.inl h.1) (fun E C en hR => ?_)
  refine at_aload_n C 0 dX7_noOld_0 rfl ?_
  refine at_iload_n C 1 dX7_noOld_1 rfl ?_
  refine at_Vi C (As := [.int x1]) (st := []) (b := 30) (ci := 7) (ct_X7_noMast σ x1 hI) mb_X7_noMast ml_X7_96 rfl rfl rfl (by decide) rfl (Nat.le_of_ble_eq_true rfl) dX7_noOld_2 ?_
  rintro _ _ ⟨rfl, ⟨rfl, c50⟩ | ⟨rfl, c50⟩⟩
  · refine at_if_ne C 17 dX7_noOld_5 (by decide) (fun c52 => ?_) (fun c52 => absurd c52 (iv_xeq (iv_c (c := 1) (x := (1 : Int32)) (by decide)) (iv_c (c := 0) (x := (0 : Int32)) (by decide)) (by decide)))
    refine at_iconst C (1 : Int32) dX7_noOld_17 (by decide) ?_
    refine at_goto C 22 dX7_noOld_18 (by decide) ?_
    exact hR _ _ _ _ dX7_noOld_22 ⟨rfl, Or.inl ⟨rfl, (fun z => c50 z.1)⟩⟩
  · have f53 : iv 0 9 x1 := (iv_of3 (Classical.not_not.mp c50) (show iv 0 10 (ac_gi σ 15) from hI.1 15))
    refine at_if_ne C 17 dX7_noOld_5 (by decide) (fun c54 => absurd (iv_xne (iv_c (c := 0) (x := (0 : Int32)) (by decide)) (iv_c (c := 0) (x := (0 : Int32)) (by decide))) c54) (fun c54 => ?_)
    refine at_aload_n C 0 dX7_noOld_8 rfl ?_
    refine gf_X7_33 C dX7_noOld_9 ?_
    refine at_iload_n C 1 dX7_noOld_12 rfl ?_
    refine at_zald C (c := 36) rfl (iv_in (n := 10) f53 (by decide) (by decide)) dX7_noOld_13 ?_
    refine at_if_ne C 21 dX7_noOld_14 (by decide) (fun c55 => ?_) (fun c55 => ?_)
    · refine at_iconst C (0 : Int32) dX7_noOld_21 (by decide) ?_
      exact hR _ _ _ _ dX7_noOld_22 ⟨rfl, Or.inr ⟨rfl, (fun z => z ⟨Classical.not_not.mp c50, c55⟩)⟩⟩
    · have f56 : iv 0 0 (ac_ga σ 36 (x1).toNatClampNeg) := (iv_eql (iv_c (c := 0) (x := (0 : Int32)) (by decide)) c55)
      refine at_iconst C (1 : Int32) dX7_noOld_17 (by decide) ?_
      refine at_goto C 22 dX7_noOld_18 (by decide) ?_
      exact hR _ _ _ _ dX7_noOld_22 ⟨rfl, Or.inl ⟨rfl, (fun z => z.2 c55)⟩⟩
set_option maxHeartbeats 4000000 in
set_option maxRecDepth 100000 in
theorem ct_X7_paid (σ : SS) (x1 : Int32) (hI : Inv σ) : ConI yX7_paid cX7_paid 2 (some .int) 4 (some 30) [.int x1] σ (fun r σ' => Gd σ σ' ∧ iv (-2147483648) 2147483647 r) := by
  refine conI_of (by decide) (fun q => Nat.le_of_ble_eq_true rfl) (fun E C en hR => ?_)
  have hG0 : Gd σ σ := Gd.rf hI
  refine at_aload_n C 0 dX7_paid_0 rfl ?_
  refine at_iload_n C 1 dX7_paid_1 rfl ?_
  refine at_Vi C (As := [.int x1]) (st := []) (b := 30) (ci := 7) (ct_X7_noOld σ x1 hI) mb_X7_noOld ml_X7_175 rfl rfl rfl (by decide) rfl (Nat.le_of_ble_eq_true rfl) dX7_paid_2 ?_
  rintro _ _ ⟨rfl, ⟨rfl, c78⟩ | ⟨rfl, c78⟩⟩
  · refine at_if_eq C 11 dX7_paid_5 (by decide) (fun c80 => absurd c80 (iv_xeq (iv_c (c := 1) (x := (1 : Int32)) (by decide)) (iv_c (c := 0) (x := (0 : Int32)) (by decide)) (by decide))) (fun c80 => ?_)
    refine at_bipush C (-2 : Int32) dX7_paid_8 (by decide) ?_
    exact hR _ _ _ _ dX7_paid_10 ⟨hG0, (iv_wk (iv_c (c := (-2)) (x := (-2 : Int32)) (by decide)) (by decide) (by decide) : iv (-2147483648) 2147483647 (-2 : Int32))⟩
  · have f81 : iv 0 9 x1 := (iv_of3 (Classical.not_not.mp c78).1 (show iv 0 10 (ac_gi σ 15) from hI.1 15))
    refine at_if_eq C 11 dX7_paid_5 (by decide) (fun c82 => ?_) (fun c82 => absurd (iv_xne (iv_c (c := 0) (x := (0 : Int32)) (by decide)) (iv_c (c := 0) (x := (0 : Int32)) (by decide))) c82)
    refine at_aload_n C 0 dX7_paid_11 rfl ?_
    refine at_iconst C (-1 : Int32) dX7_paid_12 (by decide) ?_
    refine at_iconst C (0 : Int32) dX7_paid_13 (by decide) ?_
    refine at_Vv C (As := [.int (-1 : Int32), .int (0 : Int32)]) (st := []) (b := 30) (ci := 7) (ct_X7_goDown σ (-1 : Int32) (0 : Int32) hI) mb_X7_goDown ml_X7_168 rfl rfl rfl (by decide) rfl (Nat.le_of_ble_eq_true rfl) dX7_paid_14 ?_
    rintro u83 hg84
    have hG85 := hG0.tr hg84
    refine at_aload_n C 0 dX7_paid_17 rfl ?_
    refine gf_X7_160 C dX7_paid_18 ?_
    refine at_iload_n C 1 dX7_paid_21 rfl ?_
    refine at_ishr C dX7_paid_22 ?_
    refine at_iconst C (1 : Int32) dX7_paid_23 (by decide) ?_
    refine at_iand C dX7_paid_24 ?_
    refine at_iconst C (1 : Int32) dX7_paid_25 (by decide) ?_
    refine at_icmp_ne C 38 dX7_paid_26 (by decide) (fun c86 => ?_) (fun c86 => ?_)
    · have f87 : iv 0 0 (((ac_gi u83 23) >>> (x1 &&& 31)) &&& (1 : Int32)) := (iv_neh (iv_andr (iv_wk (c := 0) (iv_c (c := 1) (x := (1 : Int32)) (by decide)) (by decide) (Int.le_refl _))) (by decide) c86)
      refine at_iconst C (0 : Int32) dX7_paid_38 (by decide) ?_
      exact hR _ _ _ _ dX7_paid_39 ⟨hG85, (iv_wk (iv_c (c := 0) (x := (0 : Int32)) (by decide)) (by decide) (by decide) : iv (-2147483648) 2147483647 (0 : Int32))⟩
    · have f88 : iv 1 1 (((ac_gi u83 23) >>> (x1 &&& 31)) &&& (1 : Int32)) := (iv_eql (iv_c (c := 1) (x := (1 : Int32)) (by decide)) c86)
      refine at_aload_n C 0 dX7_paid_29 rfl ?_
      refine gf_X7_48 C dX7_paid_30 ?_
      refine at_iload_n C 1 dX7_paid_33 rfl ?_
      refine at_iald C (c := 39) rfl (iv_in (n := 10) f81 (by decide) (by decide)) dX7_paid_34 ?_
      refine at_goto C 39 dX7_paid_35 (by decide) ?_
      exact hR _ _ _ _ dX7_paid_39 ⟨hG85, (show iv (-2147483648) 2147483647 (ac_ga u83 39 (x1).toNatClampNeg) from (iv_any (ac_ga u83 39 (x1).toNatClampNeg)))⟩
set_option maxHeartbeats 4000000 in
set_option maxRecDepth 100000 in
theorem ct_X7_round (σ : SS) (x1 : Int32) (hI : Inv σ) : ConI yX7_round cX7_round 2 (some .int) 4 (some 30) [.int x1] σ (fun r σ' => Gd σ σ' ∧ iv (-2147483648) 2147483647 r) := by
  refine conI_of (by decide) (fun q => Nat.le_of_ble_eq_true rfl) (fun E C en hR => ?_)
  have hG0 : Gd σ σ := Gd.rf hI
  refine at_aload_n C 0 dX7_round_0 rfl ?_
  refine at_iload_n C 1 dX7_round_1 rfl ?_
  refine at_Vi C (As := [.int x1]) (st := []) (b := 30) (ci := 7) (ct_X7_noOld σ x1 hI) mb_X7_noOld ml_X7_175 rfl rfl rfl (by decide) rfl (Nat.le_of_ble_eq_true rfl) dX7_round_2 ?_
  rintro _ _ ⟨rfl, ⟨rfl, c57⟩ | ⟨rfl, c57⟩⟩
  · refine at_if_eq C 11 dX7_round_5 (by decide) (fun c59 => absurd c59 (iv_xeq (iv_c (c := 1) (x := (1 : Int32)) (by decide)) (iv_c (c := 0) (x := (0 : Int32)) (by decide)) (by decide))) (fun c59 => ?_)
    refine at_bipush C (-2 : Int32) dX7_round_8 (by decide) ?_
    exact hR _ _ _ _ dX7_round_10 ⟨hG0, (iv_wk (iv_c (c := (-2)) (x := (-2 : Int32)) (by decide)) (by decide) (by decide) : iv (-2147483648) 2147483647 (-2 : Int32))⟩
  · have f60 : iv 0 9 x1 := (iv_of3 (Classical.not_not.mp c57).1 (show iv 0 10 (ac_gi σ 15) from hI.1 15))
    refine at_if_eq C 11 dX7_round_5 (by decide) (fun c61 => ?_) (fun c61 => absurd (iv_xne (iv_c (c := 0) (x := (0 : Int32)) (by decide)) (iv_c (c := 0) (x := (0 : Int32)) (by decide))) c61)
    refine at_aload_n C 0 dX7_round_11 rfl ?_
    refine at_iconst C (-1 : Int32) dX7_round_12 (by decide) ?_
    refine at_iconst C (0 : Int32) dX7_round_13 (by decide) ?_
    refine at_Vv C (As := [.int (-1 : Int32), .int (0 : Int32)]) (st := []) (b := 30) (ci := 7) (ct_X7_goDown σ (-1 : Int32) (0 : Int32) hI) mb_X7_goDown ml_X7_168 rfl rfl rfl (by decide) rfl (Nat.le_of_ble_eq_true rfl) dX7_round_14 ?_
    rintro u62 hg63
    have hG64 := hG0.tr hg63
    refine at_aload_n C 0 dX7_round_17 rfl ?_
    refine gf_X7_51 C dX7_round_18 ?_
    refine at_iload_n C 1 dX7_round_21 rfl ?_
    refine at_iald C (c := 40) rfl (iv_in (n := 10) f60 (by decide) (by decide)) dX7_round_22 ?_
    exact hR _ _ _ _ dX7_round_23 ⟨hG64, (show iv (-2147483648) 2147483647 (ac_ga u62 40 (x1).toNatClampNeg) from (iv_any (ac_ga u62 40 (x1).toNatClampNeg)))⟩
set_option maxHeartbeats 4000000 in
set_option maxRecDepth 100000 in
theorem ct_X7_wins (σ : SS) (x1 : Int32) (x2 : Int32) (hI : Inv σ) (g1 : iv 0 9 x1) : ConI yX7_wins cX7_wins 3 (some .int) 4 (some 30) [.int x1, .int x2] σ (fun r σ' => Gd σ σ' ∧ iv (-2147483648) 2147483647 r) := by
  refine conI_of (by decide) (fun q => Nat.le_of_ble_eq_true rfl) (fun E C en hR => ?_)
  have hG0 : Gd σ σ := Gd.rf hI
  refine at_aload_n C 0 dX7_wins_0 rfl ?_
  refine at_iload_n C 1 dX7_wins_1 rfl ?_
  refine at_iload_n C 2 dX7_wins_2 rfl ?_
  refine at_Vv C (As := [.int x1, .int x2]) (st := []) (b := 30) (ci := 7) (ct_X7_goDown σ x1 x2 hI) mb_X7_goDown ml_X7_168 rfl rfl rfl (by decide) rfl (Nat.le_of_ble_eq_true rfl) dX7_wins_3 ?_
  rintro u43 hg44
  have hG45 := hG0.tr hg44
  refine at_aload_n C 0 dX7_wins_6 rfl ?_
  refine gf_X7_160 C dX7_wins_7 ?_
  refine at_iload_n C 1 dX7_wins_10 rfl ?_
  refine at_ishr C dX7_wins_11 ?_
  refine at_iconst C (1 : Int32) dX7_wins_12 (by decide) ?_
  refine at_iand C dX7_wins_13 ?_
  refine at_iconst C (1 : Int32) dX7_wins_14 (by decide) ?_
  refine at_icmp_ne C 34 dX7_wins_15 (by decide) (fun c46 => ?_) (fun c46 => ?_)
  · have f47 : iv 0 0 (((ac_gi u43 23) >>> (x1 &&& 31)) &&& (1 : Int32)) := (iv_neh (iv_andr (iv_wk (c := 0) (iv_c (c := 1) (x := (1 : Int32)) (by decide)) (by decide) (Int.le_refl _))) (by decide) c46)
    refine at_iconst C (0 : Int32) dX7_wins_34 (by decide) ?_
    exact hR _ _ _ _ dX7_wins_35 ⟨hG45, (iv_wk (iv_c (c := 0) (x := (0 : Int32)) (by decide)) (by decide) (by decide) : iv (-2147483648) 2147483647 (0 : Int32))⟩
  · have f48 : iv 1 1 (((ac_gi u43 23) >>> (x1 &&& 31)) &&& (1 : Int32)) := (iv_eql (iv_c (c := 1) (x := (1 : Int32)) (by decide)) c46)
    refine at_aload_n C 0 dX7_wins_18 rfl ?_
    refine gf_X7_48 C dX7_wins_19 ?_
    refine at_iload_n C 1 dX7_wins_22 rfl ?_
    refine at_iald C (c := 39) rfl (iv_in (n := 10) g1 (by decide) (by decide)) dX7_wins_23 ?_
    refine at_aload_n C 0 dX7_wins_24 rfl ?_
    refine gf_X7_36 C dX7_wins_25 ?_
    refine at_iload_n C 1 dX7_wins_28 rfl ?_
    refine at_iald C (c := 37) rfl (iv_in (n := 10) g1 (by decide) (by decide)) dX7_wins_29 ?_
    refine at_isub C dX7_wins_30 ?_
    refine at_goto C 35 dX7_wins_31 (by decide) ?_
    exact hR _ _ _ _ dX7_wins_35 ⟨hG45, (show iv (-2147483648) 2147483647 ((ac_ga u43 39 (x1).toNatClampNeg) - (ac_ga u43 37 (x1).toNatClampNeg)) from (iv_any ((ac_ga u43 39 (x1).toNatClampNeg) - (ac_ga u43 37 (x1).toNatClampNeg))))⟩
set_option maxHeartbeats 4000000 in
set_option maxRecDepth 100000 in
theorem ct_X7_gain (σ : SS) (x1 : Int32) (x2 : Int32) (hI : Inv σ) : ConI yX7_gain cX7_gain 3 (some .int) 5 (some 30) [.int x1, .int x2] σ (fun r σ' => Gd σ σ' ∧ iv (-2147483648) 2147483647 r) := by
  refine conI_of (by decide) (fun q => Nat.le_of_ble_eq_true rfl) (fun E C en hR => ?_)
  have hG0 : Gd σ σ := Gd.rf hI
  refine at_aload_n C 0 dX7_gain_0 rfl ?_
  refine at_iload_n C 1 dX7_gain_1 rfl ?_
  refine at_Vi C (As := [.int x1]) (st := []) (b := 30) (ci := 7) (ct_X7_noOld σ x1 hI) mb_X7_noOld ml_X7_175 rfl rfl rfl (by decide) rfl (Nat.le_of_ble_eq_true rfl) dX7_gain_2 ?_
  rintro _ _ ⟨rfl, ⟨rfl, c141⟩ | ⟨rfl, c141⟩⟩
  · refine at_if_ne C 20 dX7_gain_5 (by decide) (fun c143 => ?_) (fun c143 => absurd c143 (iv_xeq (iv_c (c := 1) (x := (1 : Int32)) (by decide)) (iv_c (c := 0) (x := (0 : Int32)) (by decide)) (by decide)))
    refine at_ldc C (-1000000 : Int32) dX7_gain_20 kc_X7_178 ?_
    exact hR _ _ _ _ dX7_gain_22 ⟨hG0, (iv_wk (iv_c (c := (-1000000)) (x := (-1000000 : Int32)) (by decide)) (by decide) (by decide) : iv (-2147483648) 2147483647 (-1000000 : Int32))⟩
  · have f144 : iv 0 9 x1 := (iv_of3 (Classical.not_not.mp c141).1 (show iv 0 10 (ac_gi σ 15) from hI.1 15))
    refine at_if_ne C 20 dX7_gain_5 (by decide) (fun c145 => absurd (iv_xne (iv_c (c := 0) (x := (0 : Int32)) (by decide)) (iv_c (c := 0) (x := (0 : Int32)) (by decide))) c145) (fun c145 => ?_)
    refine at_iload_n C 2 dX7_gain_8 rfl ?_
    refine at_i2l C dX7_gain_9 ?_
    refine at_lconst C (0 : Int64) dX7_gain_10 (by decide) ?_
    refine at_ldc2 C (1000 : Int64) dX7_gain_11 kc_X7_147 ?_
    refine at_Si C (As := [.long (x2).toInt64, .long (0 : Int64), .long (1000 : Int64)]) (st := []) (ct_X7_in σ (x2).toInt64 (0 : Int64) (1000 : Int64)) mb_X7_in ml_X7_90 rfl (by decide) rfl (Nat.le_of_ble_eq_true rfl) dX7_gain_14 ?_
    rintro _ _ ⟨rfl, ⟨rfl, c146⟩ | ⟨rfl, c146⟩⟩
    · have f148 : iv 0 1000 x2 := (in_iv c146 (by decide) (by decide))
      refine at_if_ne C 23 dX7_gain_17 (by decide) (fun c149 => ?_) (fun c149 => absurd c149 (iv_xeq (iv_c (c := 1) (x := (1 : Int32)) (by decide)) (iv_c (c := 0) (x := (0 : Int32)) (by decide)) (by decide)))
      refine at_aload_n C 0 dX7_gain_23 rfl ?_
      refine at_iload_n C 1 dX7_gain_24 rfl ?_
      refine at_iload_n C 2 dX7_gain_25 rfl ?_
      refine at_Vi C (As := [.int x1, .int x2]) (st := []) (b := 30) (ci := 7) (ct_X7_wins σ x1 x2 hI (show iv 0 9 x1 from f144)) mb_X7_wins ml_X7_179 rfl rfl rfl (by decide) rfl (Nat.le_of_ble_eq_true rfl) dX7_gain_26 ?_
      rintro r150 u152 ⟨hg153, f151⟩
      have hG154 := hG0.tr hg153
      refine at_aload_n C 0 dX7_gain_29 rfl ?_
      refine at_iload_n C 1 dX7_gain_30 rfl ?_
      refine at_aload_n C 0 dX7_gain_31 rfl ?_
      refine gf_X7_36 C dX7_gain_32 ?_
      refine at_iload_n C 1 dX7_gain_35 rfl ?_
      refine at_iald C (c := 37) rfl (iv_in (n := 10) f144 (by decide) (by decide)) dX7_gain_36 ?_
      refine at_Vi C (As := [.int x1, .int (ac_ga u152 37 (x1).toNatClampNeg)]) (st := [.int r150]) (b := 30) (ci := 7) (ct_X7_wins u152 x1 (ac_ga u152 37 (x1).toNatClampNeg) hg153.1 (show iv 0 9 x1 from f144)) mb_X7_wins ml_X7_179 rfl rfl rfl (by decide) rfl (Nat.le_of_ble_eq_true rfl) dX7_gain_37 ?_
      rintro r155 u157 ⟨hg158, f156⟩
      have hG159 := hG154.tr hg158
      refine at_isub C dX7_gain_40 ?_
      exact hR _ _ _ _ dX7_gain_41 ⟨hG159, (show iv (-2147483648) 2147483647 (r150 - r155) from (iv_any (r150 - r155)))⟩
    · refine at_if_ne C 23 dX7_gain_17 (by decide) (fun c160 => absurd (iv_xne (iv_c (c := 0) (x := (0 : Int32)) (by decide)) (iv_c (c := 0) (x := (0 : Int32)) (by decide))) c160) (fun c160 => ?_)
      refine at_ldc C (-1000000 : Int32) dX7_gain_20 kc_X7_178 ?_
      exact hR _ _ _ _ dX7_gain_22 ⟨hG0, (iv_wk (iv_c (c := (-1000000)) (x := (-1000000 : Int32)) (by decide)) (by decide) (by decide) : iv (-2147483648) 2147483647 (-1000000 : Int32))⟩
set_option maxHeartbeats 4000000 in
set_option maxRecDepth 100000 in
theorem ct_X7_most (σ : SS) (x1 : Int32) (x2 : Int32) (x3 : Int32) (x4 : Int32) (hI : Inv σ) : ConI yX7_most cX7_most 10 (some .int) 5 (some 30) [.int x1, .int x2, .int x3, .int x4] σ (fun r σ' => Gd σ σ' ∧ iv (-2147483648) 2147483647 r) := by
  refine conI_of (by decide) (fun q => Nat.le_of_ble_eq_true rfl) (fun E C en hR => ?_)
  have hn5 : 5 < e_n E := by rw [en]; decide
  have hn6 : 6 < e_n E := by rw [en]; decide
  have hn7 : 7 < e_n E := by rw [en]; decide
  have hn8 : 8 < e_n E := by rw [en]; decide
  have hn9 : 9 < e_n E := by rw [en]; decide
  have hG0 : Gd σ σ := Gd.rf hI
  have K76 : ∀ (n76 : Nat) (y5_76 : Int32) (y6_76 : Int32) (y7_76 : Int32) (y8_76 : Int32) (s76 : SS), (2000 - (y8_76).toInt).toNat < n76 → iv 0 9 x1 → iv 0 1000 x2 → iv 1 1000 x3 → iv 0 1 x4 → iv (-2147483648) 2147483647 y5_76 → iv (-1) 1000 y6_76 → iv (-2147483648) 2147483647 y7_76 → iv 0 2000 y8_76 → Gd σ s76 → AT E 76 [(0, .ref (e_q E 30)), (1, .int x1), (2, .int x2), (3, .int x3), (4, .int x4), (5, .int y5_76), (6, .int y6_76), (7, .int y7_76), (8, .int y8_76)] [] s76 := by
    intro n76
    induction n76 with
    | zero => intro y5_76 y6_76 y7_76 y8_76 s76 hm; exact absurd hm (Nat.not_lt_zero _)
    | succ n76 ih76 =>
      intro y5_76 y6_76 y7_76 y8_76 s76 hm76 b1_76 b2_76 b3_76 b4_76 b5_76 b6_76 b7_76 b8_76 hG_76
      refine at_iload C 8 dX7_most_76 rfl ?_
      refine at_iload_n C 2 dX7_most_78 rfl ?_
      refine at_icmp_gt C 123 dX7_most_79 (by decide) (fun c396 => ?_) (fun c396 => ?_)
      · have f397 : iv 1 2000 y8_76 := (iv_ltr b2_76 b8_76 c396)
        refine at_iload C 4 dX7_most_123 rfl ?_
        refine at_if_ne C 133 dX7_most_125 (by decide) (fun c398 => ?_) (fun c398 => ?_)
        · have f399 : iv 1 1 x4 := (iv_nel b4_76 (by decide) c398)
          refine at_iload C 6 dX7_most_133 rfl ?_
          exact hR _ _ _ _ dX7_most_135 ⟨hG_76, (iv_wk b6_76 (by decide) (by decide) : iv (-2147483648) 2147483647 y6_76)⟩
        · have f400 : iv 0 0 x4 := (iv_eql (iv_c (c := 0) (x := (0 : Int32)) (by decide)) c398)
          refine at_iload C 7 dX7_most_128 rfl ?_
          refine at_goto C 135 dX7_most_130 (by decide) ?_
          exact hR _ _ _ _ dX7_most_135 ⟨hG_76, (show iv (-2147483648) 2147483647 y7_76 from b7_76)⟩
      · have f401 : iv 0 1000 y8_76 := (iv_lel b8_76 b2_76 (Int32.not_lt.mp c396))
        refine at_aload_n C 0 dX7_most_82 rfl ?_
        refine at_iload_n C 1 dX7_most_83 rfl ?_
        refine at_iload C 8 dX7_most_84 rfl ?_
        refine at_Vi C (As := [.int x1, .int y8_76]) (st := []) (b := 30) (ci := 7) (ct_X7_wins s76 x1 y8_76 hG_76.1 (show iv 0 9 x1 from b1_76)) mb_X7_wins ml_X7_179 rfl rfl rfl (by decide) rfl (Nat.le_of_ble_eq_true rfl) dX7_most_86 ?_
        rintro r402 u404 ⟨hg405, f403⟩
        have hG406 := hG_76.tr hg405
        refine at_iload C 5 dX7_most_89 rfl ?_
        refine at_isub C dX7_most_91 ?_
        refine at_istore C (lv' := [(9, .int (r402 - y5_76)), (0, .ref (e_q E 30)), (1, .int x1), (2, .int x2), (3, .int x3), (4, .int x4), (5, .int y5_76), (6, .int y6_76), (7, .int y7_76), (8, .int y8_76)]) dX7_most_92 hn9 rfl ?_
        refine at_iload C 7 dX7_most_94 rfl ?_
        refine at_if_lt C 106 dX7_most_96 (by decide) (fun c407 => ?_) (fun c407 => ?_)
        · have f408 : iv (-1) (-1) y6_76 := (iv_ltl b6_76 (iv_c (c := 0) (x := (0 : Int32)) (by decide)) c407)
          refine at_iload C 9 dX7_most_106 rfl ?_
          refine at_istore C (lv' := [(6, .int y8_76), (9, .int (r402 - y5_76)), (0, .ref (e_q E 30)), (1, .int x1), (2, .int x2), (3, .int x3), (4, .int x4), (5, .int y5_76), (7, .int y7_76), (8, .int y8_76)]) dX7_most_108 hn6 rfl ?_
          refine at_iload C 1 dX7_most_110 rfl ?_
          refine at_istore C (lv' := [(7, .int (r402 - y5_76)), (6, .int y8_76), (9, .int (r402 - y5_76)), (0, .ref (e_q E 30)), (1, .int x1), (2, .int x2), (3, .int x3), (4, .int x4), (5, .int y5_76), (8, .int y8_76)]) dX7_most_112 hn7 rfl ?_
          refine at_iload C 9 dX7_most_114 rfl ?_
          refine at_iload_n C 6 dX7_most_116 rfl ?_
          refine at_iadd C dX7_most_117 ?_
          refine at_istore C (lv' := [(8, .int (y8_76 + x3)), (7, .int (r402 - y5_76)), (6, .int y8_76), (9, .int (r402 - y5_76)), (0, .ref (e_q E 30)), (1, .int x1), (2, .int x2), (3, .int x3), (4, .int x4), (5, .int y5_76)]) dX7_most_118 hn8 rfl ?_
          refine at_goto C 76 dX7_most_120 (by decide) ?_
          exact at_sub [4, 5, 6, 7, 8, 9, 2, 1, 0] rfl (ih76 y5_76 y8_76 (r402 - y5_76) (y8_76 + x3) u404 (mz_upv hm76 f401 b3_76 (by decide) (by decide) (by decide) (iv_wk (iv_add f401 b3_76 (by decide) (by decide)) (by decide) (by decide) : iv 0 2000 (y8_76 + x3)).2) (show iv 0 9 x1 from b1_76) (show iv 0 1000 x2 from b2_76) (show iv 1 1000 x3 from b3_76) (show iv 0 1 x4 from b4_76) (show iv (-2147483648) 2147483647 y5_76 from b5_76) (iv_wk f401 (by decide) (by decide) : iv (-1) 1000 y8_76) (show iv (-2147483648) 2147483647 (r402 - y5_76) from (iv_any (r402 - y5_76))) (iv_wk (iv_add f401 b3_76 (by decide) (by decide)) (by decide) (by decide) : iv 0 2000 (y8_76 + x3)) hG406)
        · have f409 : iv 0 1000 y6_76 := (iv_ler (iv_c (c := 0) (x := (0 : Int32)) (by decide)) b6_76 (Int32.not_lt.mp c407))
          refine at_iload C 0 dX7_most_99 rfl ?_
          refine at_iload C 8 dX7_most_101 rfl ?_
          refine at_icmp_le C 114 dX7_most_103 (by decide) (fun c410 => ?_) (fun c410 => ?_)
          · refine at_iload C 9 dX7_most_114 rfl ?_
            refine at_iload_n C 4 dX7_most_116 rfl ?_
            refine at_iadd C dX7_most_117 ?_
            refine at_istore C (lv' := [(8, .int (y8_76 + x3)), (9, .int (r402 - y5_76)), (0, .ref (e_q E 30)), (1, .int x1), (2, .int x2), (3, .int x3), (4, .int x4), (5, .int y5_76), (6, .int y6_76), (7, .int y7_76)]) dX7_most_118 hn8 rfl ?_
            refine at_goto C 76 dX7_most_120 (by decide) ?_
            exact at_sub [2, 3, 4, 5, 6, 7, 8, 9, 0] rfl (ih76 y5_76 y6_76 y7_76 (y8_76 + x3) u404 (mz_upv hm76 f401 b3_76 (by decide) (by decide) (by decide) (iv_wk (iv_add f401 b3_76 (by decide) (by decide)) (by decide) (by decide) : iv 0 2000 (y8_76 + x3)).2) (show iv 0 9 x1 from b1_76) (show iv 0 1000 x2 from b2_76) (show iv 1 1000 x3 from b3_76) (show iv 0 1 x4 from b4_76) (show iv (-2147483648) 2147483647 y5_76 from b5_76) (iv_wk f409 (by decide) (by decide) : iv (-1) 1000 y6_76) (show iv (-2147483648) 2147483647 y7_76 from b7_76) (iv_wk (iv_add f401 b3_76 (by decide) (by decide)) (by decide) (by decide) : iv 0 2000 (y8_76 + x3)) hG406)
          · have f411 : iv (-2147483648) 2147483646 y7_76 := (iv_ltl b7_76 (iv_any (r402 - y5_76)) (Int32.not_le.mp c410))
            have f412 : iv (-2147483647) 2147483647 (r402 - y5_76) := (iv_ltr b7_76 (iv_any (r402 - y5_76)) (Int32.not_le.mp c410))
            refine at_iload C 9 dX7_most_106 rfl ?_
            refine at_istore C (lv' := [(6, .int y8_76), (9, .int (r402 - y5_76)), (0, .ref (e_q E 30)), (1, .int x1), (2, .int x2), (3, .int x3), (4, .int x4), (5, .int y5_76), (7, .int y7_76), (8, .int y8_76)]) dX7_most_108 hn6 rfl ?_
            refine at_iload C 1 dX7_most_110 rfl ?_
            refine at_istore C (lv' := [(7, .int (r402 - y5_76)), (6, .int y8_76), (9, .int (r402 - y5_76)), (0, .ref (e_q E 30)), (1, .int x1), (2, .int x2), (3, .int x3), (4, .int x4), (5, .int y5_76), (8, .int y8_76)]) dX7_most_112 hn7 rfl ?_
            refine at_iload C 9 dX7_most_114 rfl ?_
            refine at_iload_n C 6 dX7_most_116 rfl ?_
            refine at_iadd C dX7_most_117 ?_
            refine at_istore C (lv' := [(8, .int (y8_76 + x3)), (7, .int (r402 - y5_76)), (6, .int y8_76), (9, .int (r402 - y5_76)), (0, .ref (e_q E 30)), (1, .int x1), (2, .int x2), (3, .int x3), (4, .int x4), (5, .int y5_76)]) dX7_most_118 hn8 rfl ?_
            refine at_goto C 76 dX7_most_120 (by decide) ?_
            exact at_sub [4, 5, 6, 7, 8, 9, 2, 1, 0] rfl (ih76 y5_76 y8_76 (r402 - y5_76) (y8_76 + x3) u404 (mz_upv hm76 f401 b3_76 (by decide) (by decide) (by decide) (iv_wk (iv_add f401 b3_76 (by decide) (by decide)) (by decide) (by decide) : iv 0 2000 (y8_76 + x3)).2) (show iv 0 9 x1 from b1_76) (show iv 0 1000 x2 from b2_76) (show iv 1 1000 x3 from b3_76) (show iv 0 1 x4 from b4_76) (show iv (-2147483648) 2147483647 y5_76 from b5_76) (iv_wk f401 (by decide) (by decide) : iv (-1) 1000 y8_76) (iv_wk f412 (by decide) (by decide) : iv (-2147483648) 2147483647 (r402 - y5_76)) (iv_wk (iv_add f401 b3_76 (by decide) (by decide)) (by decide) (by decide) : iv 0 2000 (y8_76 + x3)) hG406)
  refine at_aload_n C 0 dX7_most_0 rfl ?_
  refine at_iload_n C 1 dX7_most_1 rfl ?_
  refine at_Vi C (As := [.int x1]) (st := []) (b := 30) (ci := 7) (ct_X7_noOld σ x1 hI) mb_X7_noOld ml_X7_175 rfl rfl rfl (by decide) rfl (Nat.le_of_ble_eq_true rfl) dX7_most_2 ?_
  rintro _ _ ⟨rfl, ⟨rfl, c413⟩ | ⟨rfl, c413⟩⟩
  · refine at_if_ne C 51 dX7_most_5 (by decide) (fun c415 => ?_) (fun c415 => absurd c415 (iv_xeq (iv_c (c := 1) (x := (1 : Int32)) (by decide)) (iv_c (c := 0) (x := (0 : Int32)) (by decide)) (by decide)))
    refine at_ldc C (-1000000 : Int32) dX7_most_51 kc_X7_178 ?_
    exact hR _ _ _ _ dX7_most_53 ⟨hG0, (iv_wk (iv_c (c := (-1000000)) (x := (-1000000 : Int32)) (by decide)) (by decide) (by decide) : iv (-2147483648) 2147483647 (-1000000 : Int32))⟩
  · have f416 : iv 0 9 x1 := (iv_of3 (Classical.not_not.mp c413).1 (show iv 0 10 (ac_gi σ 15) from hI.1 15))
    refine at_if_ne C 51 dX7_most_5 (by decide) (fun c417 => absurd (iv_xne (iv_c (c := 0) (x := (0 : Int32)) (by decide)) (iv_c (c := 0) (x := (0 : Int32)) (by decide))) c417) (fun c417 => ?_)
    refine at_iload_n C 2 dX7_most_8 rfl ?_
    refine at_i2l C dX7_most_9 ?_
    refine at_lconst C (0 : Int64) dX7_most_10 (by decide) ?_
    refine at_ldc2 C (1000 : Int64) dX7_most_11 kc_X7_147 ?_
    refine at_Si C (As := [.long (x2).toInt64, .long (0 : Int64), .long (1000 : Int64)]) (st := []) (ct_X7_in σ (x2).toInt64 (0 : Int64) (1000 : Int64)) mb_X7_in ml_X7_90 rfl (by decide) rfl (Nat.le_of_ble_eq_true rfl) dX7_most_14 ?_
    rintro _ _ ⟨rfl, ⟨rfl, c418⟩ | ⟨rfl, c418⟩⟩
    · have f420 : iv 0 1000 x2 := (in_iv c418 (by decide) (by decide))
      refine at_if_eq C 51 dX7_most_17 (by decide) (fun c421 => absurd c421 (iv_xeq (iv_c (c := 1) (x := (1 : Int32)) (by decide)) (iv_c (c := 0) (x := (0 : Int32)) (by decide)) (by decide))) (fun c421 => ?_)
      refine at_iload_n C 3 dX7_most_20 rfl ?_
      refine at_i2l C dX7_most_21 ?_
      refine at_lconst C (1 : Int64) dX7_most_22 (by decide) ?_
      refine at_ldc2 C (1000 : Int64) dX7_most_23 kc_X7_147 ?_
      refine at_Si C (As := [.long (x3).toInt64, .long (1 : Int64), .long (1000 : Int64)]) (st := []) (ct_X7_in σ (x3).toInt64 (1 : Int64) (1000 : Int64)) mb_X7_in ml_X7_90 rfl (by decide) rfl (Nat.le_of_ble_eq_true rfl) dX7_most_26 ?_
      rintro _ _ ⟨rfl, ⟨rfl, c422⟩ | ⟨rfl, c422⟩⟩
      · have f424 : iv 1 1000 x3 := (in_iv c422 (by decide) (by decide))
        refine at_if_eq C 51 dX7_most_29 (by decide) (fun c425 => absurd c425 (iv_xeq (iv_c (c := 1) (x := (1 : Int32)) (by decide)) (iv_c (c := 0) (x := (0 : Int32)) (by decide)) (by decide))) (fun c425 => ?_)
        refine at_iload_n C 2 dX7_most_32 rfl ?_
        refine at_iload_n C 3 dX7_most_33 rfl ?_
        refine at_idiv C dX7_most_34 (iv_pos f424 (by decide)) ?_
        refine at_bipush C (20 : Int32) dX7_most_35 (by decide) ?_
        refine at_icmp_gt C 51 dX7_most_37 (by decide) (fun c426 => ?_) (fun c426 => ?_)
        · have f427 : iv 21 1000 (x2 / x3) := (iv_ltr (iv_c (c := 20) (x := (20 : Int32)) (by decide)) (iv_div f420 f424) c426)
          refine at_ldc C (-1000000 : Int32) dX7_most_51 kc_X7_178 ?_
          exact hR _ _ _ _ dX7_most_53 ⟨hG0, (iv_wk (iv_c (c := (-1000000)) (x := (-1000000 : Int32)) (by decide)) (by decide) (by decide) : iv (-2147483648) 2147483647 (-1000000 : Int32))⟩
        · have f428 : iv 0 20 (x2 / x3) := (iv_lel (iv_div f420 f424) (iv_c (c := 20) (x := (20 : Int32)) (by decide)) (Int32.not_lt.mp c426))
          refine at_iload C 4 dX7_most_40 rfl ?_
          refine at_i2l C dX7_most_42 ?_
          refine at_lconst C (0 : Int64) dX7_most_43 (by decide) ?_
          refine at_lconst C (1 : Int64) dX7_most_44 (by decide) ?_
          refine at_Si C (As := [.long (x4).toInt64, .long (0 : Int64), .long (1 : Int64)]) (st := []) (ct_X7_in σ (x4).toInt64 (0 : Int64) (1 : Int64)) mb_X7_in ml_X7_90 rfl (by decide) rfl (Nat.le_of_ble_eq_true rfl) dX7_most_45 ?_
          rintro _ _ ⟨rfl, ⟨rfl, c429⟩ | ⟨rfl, c429⟩⟩
          · have f431 : iv 0 1 x4 := (in_iv c429 (by decide) (by decide))
            refine at_if_ne C 54 dX7_most_48 (by decide) (fun c432 => ?_) (fun c432 => absurd c432 (iv_xeq (iv_c (c := 1) (x := (1 : Int32)) (by decide)) (iv_c (c := 0) (x := (0 : Int32)) (by decide)) (by decide)))
            refine at_aload_n C 0 dX7_most_54 rfl ?_
            refine at_iload_n C 1 dX7_most_55 rfl ?_
            refine at_aload_n C 0 dX7_most_56 rfl ?_
            refine gf_X7_36 C dX7_most_57 ?_
            refine at_iload_n C 1 dX7_most_60 rfl ?_
            refine at_iald C (c := 37) rfl (iv_in (n := 10) f416 (by decide) (by decide)) dX7_most_61 ?_
            refine at_Vi C (As := [.int x1, .int (ac_ga σ 37 (x1).toNatClampNeg)]) (st := []) (b := 30) (ci := 7) (ct_X7_wins σ x1 (ac_ga σ 37 (x1).toNatClampNeg) hI (show iv 0 9 x1 from f416)) mb_X7_wins ml_X7_179 rfl rfl rfl (by decide) rfl (Nat.le_of_ble_eq_true rfl) dX7_most_62 ?_
            rintro r433 u435 ⟨hg436, f434⟩
            have hG437 := hG0.tr hg436
            refine at_istore C (lv' := [(5, .int r433), (0, .ref (e_q E 30)), (1, .int x1), (2, .int x2), (3, .int x3), (4, .int x4)]) dX7_most_65 hn5 rfl ?_
            refine at_iconst C (-1 : Int32) dX7_most_67 (by decide) ?_
            refine at_istore C (lv' := [(6, .int (-1 : Int32)), (5, .int r433), (0, .ref (e_q E 30)), (1, .int x1), (2, .int x2), (3, .int x3), (4, .int x4)]) dX7_most_68 hn6 rfl ?_
            refine at_iconst C (0 : Int32) dX7_most_70 (by decide) ?_
            refine at_istore C (lv' := [(7, .int (0 : Int32)), (6, .int (-1 : Int32)), (5, .int r433), (0, .ref (e_q E 30)), (1, .int x1), (2, .int x2), (3, .int x3), (4, .int x4)]) dX7_most_71 hn7 rfl ?_
            refine at_iconst C (0 : Int32) dX7_most_73 (by decide) ?_
            refine at_istore C (lv' := [(8, .int (0 : Int32)), (7, .int (0 : Int32)), (6, .int (-1 : Int32)), (5, .int r433), (0, .ref (e_q E 30)), (1, .int x1), (2, .int x2), (3, .int x3), (4, .int x4)]) dX7_most_74 hn8 rfl ?_
            exact at_sub [4, 5, 6, 7, 8, 3, 2, 1, 0] rfl (K76 _ r433 (-1 : Int32) (0 : Int32) (0 : Int32) u435 (Nat.lt_succ_self _) (show iv 0 9 x1 from f416) (show iv 0 1000 x2 from f420) (show iv 1 1000 x3 from f424) (show iv 0 1 x4 from f431) (show iv (-2147483648) 2147483647 r433 from f434) (iv_wk (iv_c (c := (-1)) (x := (-1 : Int32)) (by decide)) (by decide) (by decide) : iv (-1) 1000 (-1 : Int32)) (iv_wk (iv_c (c := 0) (x := (0 : Int32)) (by decide)) (by decide) (by decide) : iv (-2147483648) 2147483647 (0 : Int32)) (iv_wk (iv_c (c := 0) (x := (0 : Int32)) (by decide)) (by decide) (by decide) : iv 0 2000 (0 : Int32)) hG437)
          · refine at_if_ne C 54 dX7_most_48 (by decide) (fun c438 => absurd (iv_xne (iv_c (c := 0) (x := (0 : Int32)) (by decide)) (iv_c (c := 0) (x := (0 : Int32)) (by decide))) c438) (fun c438 => ?_)
            refine at_ldc C (-1000000 : Int32) dX7_most_51 kc_X7_178 ?_
            exact hR _ _ _ _ dX7_most_53 ⟨hG0, (iv_wk (iv_c (c := (-1000000)) (x := (-1000000 : Int32)) (by decide)) (by decide) (by decide) : iv (-2147483648) 2147483647 (-1000000 : Int32))⟩
      · refine at_if_eq C 51 dX7_most_29 (by decide) (fun c439 => ?_) (fun c439 => absurd (iv_xne (iv_c (c := 0) (x := (0 : Int32)) (by decide)) (iv_c (c := 0) (x := (0 : Int32)) (by decide))) c439)
        refine at_ldc C (-1000000 : Int32) dX7_most_51 kc_X7_178 ?_
        exact hR _ _ _ _ dX7_most_53 ⟨hG0, (iv_wk (iv_c (c := (-1000000)) (x := (-1000000 : Int32)) (by decide)) (by decide) (by decide) : iv (-2147483648) 2147483647 (-1000000 : Int32))⟩
    · refine at_if_eq C 51 dX7_most_17 (by decide) (fun c440 => ?_) (fun c440 => absurd (iv_xne (iv_c (c := 0) (x := (0 : Int32)) (by decide)) (iv_c (c := 0) (x := (0 : Int32)) (by decide))) c440)
      refine at_ldc C (-1000000 : Int32) dX7_most_51 kc_X7_178 ?_
      exact hR _ _ _ _ dX7_most_53 ⟨hG0, (iv_wk (iv_c (c := (-1000000)) (x := (-1000000 : Int32)) (by decide)) (by decide) (by decide) : iv (-2147483648) 2147483647 (-1000000 : Int32))⟩
