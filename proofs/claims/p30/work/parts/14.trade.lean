set_option maxHeartbeats 4000000 in
set_option maxRecDepth 100000 in
theorem ct_X5_allHouses (σ : SS) : ConI yX5_allHouses cX5_allHouses 1 (some .int) 0 (some 5) [] σ (fun r σ' => σ = σ' ∧ r = (((1 : Int32) <<< ((ac_gi σ 12) &&& 31)) - (1 : Int32))) := by
  refine conI_of (by decide) (fun q => Nat.le_of_ble_eq_true rfl) (fun E C en hR => ?_)
  refine at_iconst C (1 : Int32) dX5_allHouses_0 (by decide) ?_
  refine at_aload_n C 0 dX5_allHouses_1 rfl ?_
  refine gf_X5_9 C dX5_allHouses_2 ?_
  refine at_ishl C dX5_allHouses_5 ?_
  refine at_iconst C (1 : Int32) dX5_allHouses_6 (by decide) ?_
  refine at_isub C dX5_allHouses_7 ?_
  exact hR _ _ _ _ dX5_allHouses_8 ⟨rfl, rfl⟩
set_option maxHeartbeats 4000000 in
set_option maxRecDepth 100000 in
theorem ct_X5_isHouse (σ : SS) (x1 : Int32) : ConI yX5_isHouse cX5_isHouse 2 (some .boolean) 0 (some 5) [.int x1] σ (fun r σ' => σ = σ' ∧ ((r = 1 ∧ (0 ≤ (x1).toInt ∧ (x1).toInt < (ac_gi σ 12).toInt)) ∨ (r = 0 ∧ ¬ (0 ≤ (x1).toInt ∧ (x1).toInt < (ac_gi σ 12).toInt)))) := by
  refine conZ_of (by decide) (fun q => Nat.le_of_ble_eq_true rfl) (fun r u h => by rcases h.2 with h | h; exact Or.inr h.1; exact Or.inl h.1) (fun E C en hR => ?_)
  refine at_iload_n C 1 dX5_isHouse_0 rfl ?_
  refine at_if_lt C 16 dX5_isHouse_1 (by decide) (fun c43 => ?_) (fun c43 => ?_)
  · have f44 : iv (-2147483648) (-1) x1 := (iv_ltl (iv_any x1) (iv_c (c := 0) (x := (0 : Int32)) (by decide)) c43)
    refine at_iconst C (0 : Int32) dX5_isHouse_16 (by decide) ?_
    exact hR _ _ _ _ dX5_isHouse_17 ⟨rfl, Or.inr ⟨rfl, (by have t1 := iv_lt c43; have k0 : (0 : Int32).toInt = 0 := (by decide); omega)⟩⟩
  · have f45 : iv 0 2147483647 x1 := (iv_ler (iv_c (c := 0) (x := (0 : Int32)) (by decide)) (iv_any x1) (Int32.not_lt.mp c43))
    refine at_iload_n C 1 dX5_isHouse_4 rfl ?_
    refine at_aload_n C 0 dX5_isHouse_5 rfl ?_
    refine gf_X5_9 C dX5_isHouse_6 ?_
    refine at_icmp_ge C 16 dX5_isHouse_9 (by decide) (fun c46 => ?_) (fun c46 => ?_)
    · refine at_iconst C (0 : Int32) dX5_isHouse_16 (by decide) ?_
      exact hR _ _ _ _ dX5_isHouse_17 ⟨rfl, Or.inr ⟨rfl, (by have t1 := iv_le (Int32.not_lt.mp c43); have t2 := iv_le c46; have k0 : (0 : Int32).toInt = 0 := (by decide); omega)⟩⟩
    · have f47 : iv 0 2147483646 x1 := (iv_ltl f45 (iv_any (ac_gi σ 12)) (Int32.not_le.mp c46))
      have f48 : iv 1 2147483647 (ac_gi σ 12) := (iv_ltr f45 (iv_any (ac_gi σ 12)) (Int32.not_le.mp c46))
      refine at_iconst C (1 : Int32) dX5_isHouse_12 (by decide) ?_
      refine at_goto C 17 dX5_isHouse_13 (by decide) ?_
      exact hR _ _ _ _ dX5_isHouse_17 ⟨rfl, Or.inl ⟨rfl, (by have t1 := iv_le (Int32.not_lt.mp c43); have t2 := iv_lt (Int32.not_le.mp c46); have k0 : (0 : Int32).toInt = 0 := (by decide); omega)⟩⟩
set_option maxHeartbeats 4000000 in
set_option maxRecDepth 100000 in
theorem ct_X5_isGroup (σ : SS) (x1 : Int32) : ConI yX5_isGroup cX5_isGroup 2 (some .boolean) 1 (some 5) [.int x1] σ (fun r σ' => σ = σ' ∧ ((r = 1 ∧ (0 ≤ (x1).toInt ∧ (x1).toInt ≤ (((1 : Int32) <<< (ac_gi σ 12 &&& 31)) - (1 : Int32)).toInt)) ∨ (r = 0 ∧ ¬ (0 ≤ (x1).toInt ∧ (x1).toInt ≤ (((1 : Int32) <<< (ac_gi σ 12 &&& 31)) - (1 : Int32)).toInt)))) := by
  refine conZ_of (by decide) (fun q => Nat.le_of_ble_eq_true rfl) (fun r u h => by rcases h.2 with h | h; exact Or.inr h.1; exact Or.inl h.1) (fun E C en hR => ?_)
  refine at_iload_n C 1 dX5_isGroup_0 rfl ?_
  refine at_if_lt C 16 dX5_isGroup_1 (by decide) (fun c57 => ?_) (fun c57 => ?_)
  · have f58 : iv (-2147483648) (-1) x1 := (iv_ltl (iv_any x1) (iv_c (c := 0) (x := (0 : Int32)) (by decide)) c57)
    refine at_iconst C (0 : Int32) dX5_isGroup_16 (by decide) ?_
    exact hR _ _ _ _ dX5_isGroup_17 ⟨rfl, Or.inr ⟨rfl, (by have t1 := iv_lt c57; have k0 : (0 : Int32).toInt = 0 := (by decide); omega)⟩⟩
  · have f59 : iv 0 2147483647 x1 := (iv_ler (iv_c (c := 0) (x := (0 : Int32)) (by decide)) (iv_any x1) (Int32.not_lt.mp c57))
    refine at_iload_n C 1 dX5_isGroup_4 rfl ?_
    refine at_aload_n C 0 dX5_isGroup_5 rfl ?_
    refine at_Vi C (As := []) (st := [.int x1]) (b := 5) (ci := 5) (ct_X5_allHouses σ) mb_X5_allHouses ml_X5_41 rfl rfl rfl (by decide) rfl (Nat.le_of_ble_eq_true rfl) dX5_isGroup_6 ?_
    rintro _ _ ⟨rfl, rfl⟩
    refine at_icmp_gt C 16 dX5_isGroup_9 (by decide) (fun c62 => ?_) (fun c62 => ?_)
    · have f63 : iv (-2147483648) 2147483646 (((1 : Int32) <<< ((ac_gi σ 12) &&& 31)) - (1 : Int32)) := (iv_ltl (iv_any (((1 : Int32) <<< ((ac_gi σ 12) &&& 31)) - (1 : Int32))) f59 c62)
      refine at_iconst C (0 : Int32) dX5_isGroup_16 (by decide) ?_
      exact hR _ _ _ _ dX5_isGroup_17 ⟨rfl, Or.inr ⟨rfl, (by have t1 := iv_le (Int32.not_lt.mp c57); have t2 := iv_lt c62; have k0 : (0 : Int32).toInt = 0 := (by decide); omega)⟩⟩
    · have f64 : iv 0 2147483647 (((1 : Int32) <<< ((ac_gi σ 12) &&& 31)) - (1 : Int32)) := (iv_ler f59 (iv_any (((1 : Int32) <<< ((ac_gi σ 12) &&& 31)) - (1 : Int32))) (Int32.not_lt.mp c62))
      refine at_iconst C (1 : Int32) dX5_isGroup_12 (by decide) ?_
      refine at_goto C 17 dX5_isGroup_13 (by decide) ?_
      exact hR _ _ _ _ dX5_isGroup_17 ⟨rfl, Or.inl ⟨rfl, (by have t1 := iv_le (Int32.not_lt.mp c57); have t2 := iv_le (Int32.not_lt.mp c62); have k0 : (0 : Int32).toInt = 0 := (by decide); omega)⟩⟩
set_option maxHeartbeats 4000000 in
set_option maxRecDepth 100000 in
theorem ct_X5_winOf (σ : SS) (x1 : Int32) (hI : Inv σ) : ConI yX5_winOf cX5_winOf 2 (some .int) 1 (some 5) [.int x1] σ (fun r σ' => σ = σ' ∧ iv (-2147483648) 2147483647 r) := by
  refine conI_of (by decide) (fun q => Nat.le_of_ble_eq_true rfl) (fun E C en hR => ?_)
  refine at_aload_n C 0 dX5_winOf_0 rfl ?_
  refine at_iload_n C 1 dX5_winOf_1 rfl ?_
  refine at_Vi C (As := [.int x1]) (st := []) (b := 5) (ci := 5) (ct_X5_isHouse σ x1) mb_X5_isHouse ml_X5_80 rfl rfl rfl (by decide) rfl (Nat.le_of_ble_eq_true rfl) dX5_winOf_2 ?_
  rintro _ _ ⟨rfl, ⟨rfl, c78⟩ | ⟨rfl, c78⟩⟩
  · have f80 : iv 0 5 x1 := (iv_of3 c78 (show iv 0 6 (ac_gi σ 12) from hI.1 12))
    refine at_if_eq C 30 dX5_winOf_5 (by decide) (fun c81 => absurd c81 (iv_xeq (iv_c (c := 1) (x := (1 : Int32)) (by decide)) (iv_c (c := 0) (x := (0 : Int32)) (by decide)) (by decide))) (fun c81 => ?_)
    refine at_aload_n C 0 dX5_winOf_8 rfl ?_
    refine gf_X5_31 C dX5_winOf_9 ?_
    refine at_iload_n C 1 dX5_winOf_12 rfl ?_
    refine at_iald C (c := 25) rfl (iv_in (n := 6) f80 (by decide) (by decide)) dX5_winOf_13 ?_
    refine at_if_lt C 30 dX5_winOf_14 (by decide) (fun c82 => ?_) (fun c82 => ?_)
    · have f83 : iv (-1) (-1) (ac_ga σ 25 (x1).toNatClampNeg) := (iv_ltl (show iv (-1) 23 (ac_ga σ 25 (x1).toNatClampNeg) from hI.2 25 _) (iv_c (c := 0) (x := (0 : Int32)) (by decide)) c82)
      refine at_iconst C (0 : Int32) dX5_winOf_30 (by decide) ?_
      exact hR _ _ _ _ dX5_winOf_31 ⟨rfl, (iv_wk (iv_c (c := 0) (x := (0 : Int32)) (by decide)) (by decide) (by decide) : iv (-2147483648) 2147483647 (0 : Int32))⟩
    · have f84 : iv 0 23 (ac_ga σ 25 (x1).toNatClampNeg) := (iv_ler (iv_c (c := 0) (x := (0 : Int32)) (by decide)) (show iv (-1) 23 (ac_ga σ 25 (x1).toNatClampNeg) from hI.2 25 _) (Int32.not_lt.mp c82))
      refine at_aload_n C 0 dX5_winOf_17 rfl ?_
      refine gf_X5_31 C dX5_winOf_18 ?_
      refine at_iload_n C 1 dX5_winOf_21 rfl ?_
      refine at_iald C (c := 25) rfl (iv_in (n := 6) f80 (by decide) (by decide)) dX5_winOf_22 ?_
      refine at_aload_n C 0 dX5_winOf_23 rfl ?_
      refine gf_X5_15 C dX5_winOf_24 ?_
      refine at_icmp_lt C 32 dX5_winOf_27 (by decide) (fun c85 => ?_) (fun c85 => ?_)
      · have f86 : iv 1 24 (ac_gi σ 13) := (iv_ltr f84 (show iv 0 24 (ac_gi σ 13) from hI.1 13) c85)
        refine at_aload_n C 0 dX5_winOf_32 rfl ?_
        refine gf_X5_25 C dX5_winOf_33 ?_
        refine at_aload_n C 0 dX5_winOf_36 rfl ?_
        refine gf_X5_31 C dX5_winOf_37 ?_
        refine at_iload_n C 1 dX5_winOf_40 rfl ?_
        refine at_iald C (c := 25) rfl (iv_in (n := 6) f80 (by decide) (by decide)) dX5_winOf_41 ?_
        refine at_iald C (c := 23) rfl (iv_in (n := 24) f84 (by decide) (by decide)) dX5_winOf_42 ?_
        exact hR _ _ _ _ dX5_winOf_43 ⟨rfl, (show iv (-2147483648) 2147483647 (ac_ga σ 23 ((ac_ga σ 25 (x1).toNatClampNeg)).toNatClampNeg) from (iv_any (ac_ga σ 23 ((ac_ga σ 25 (x1).toNatClampNeg)).toNatClampNeg)))⟩
      · have f87 : iv 0 23 (ac_gi σ 13) := (iv_lel (show iv 0 24 (ac_gi σ 13) from hI.1 13) f84 (Int32.not_lt.mp c85))
        refine at_iconst C (0 : Int32) dX5_winOf_30 (by decide) ?_
        exact hR _ _ _ _ dX5_winOf_31 ⟨rfl, (iv_wk (iv_c (c := 0) (x := (0 : Int32)) (by decide)) (by decide) (by decide) : iv (-2147483648) 2147483647 (0 : Int32))⟩
  · refine at_if_eq C 30 dX5_winOf_5 (by decide) (fun c88 => ?_) (fun c88 => absurd (iv_xne (iv_c (c := 0) (x := (0 : Int32)) (by decide)) (iv_c (c := 0) (x := (0 : Int32)) (by decide))) c88)
    refine at_iconst C (0 : Int32) dX5_winOf_30 (by decide) ?_
    exact hR _ _ _ _ dX5_winOf_31 ⟨rfl, (iv_wk (iv_c (c := 0) (x := (0 : Int32)) (by decide)) (by decide) (by decide) : iv (-2147483648) 2147483647 (0 : Int32))⟩
set_option maxHeartbeats 4000000 in
set_option maxRecDepth 100000 in
theorem ct_X5_firstToReach (σ : SS) (x1 : Int32) (x2 : Int32) (x3 : Int32) (x4 : Int32) (hI : Inv σ) (g3 : iv 0 63 x3) (g4 : iv 0 63 x4) : ConI yX5_firstToReach cX5_firstToReach 7 (some .int) 0 (some 5) [.int x1, .int x2, .int x3, .int x4] σ (fun r σ' => σ = σ' ∧ iv (-1) 23 r) := by
  refine conI_of (by decide) (fun q => Nat.le_of_ble_eq_true rfl) (fun E C en hR => ?_)
  have hn5 : 5 < e_n E := by rw [en]; decide
  have hn6 : 6 < e_n E := by rw [en]; decide
  have K21 : ∀ (n21 : Nat) (y5_21 : Int32), (24 - (y5_21).toInt).toNat < n21 → iv 0 24 y5_21 → AT E 21 [(0, .ref (e_q E 5)), (1, .int x1), (2, .int x2), (3, .int x3), (4, .int x4), (5, .int y5_21)] [] σ := by
    intro n21
    induction n21 with
    | zero => intro y5_21 hm; exact absurd hm (Nat.not_lt_zero _)
    | succ n21 ih21 =>
      intro y5_21 hm21 b5_21
      refine at_iload C 5 dX5_firstToReach_21 rfl ?_
      refine at_aload_n C 0 dX5_firstToReach_23 rfl ?_
      refine gf_X5_15 C dX5_firstToReach_24 ?_
      refine at_icmp_ge C 98 dX5_firstToReach_27 (by decide) (fun c190 => ?_) (fun c190 => ?_)
      · refine at_iconst C (-1 : Int32) dX5_firstToReach_98 (by decide) ?_
        exact hR _ _ _ _ dX5_firstToReach_99 ⟨rfl, (iv_wk (iv_c (c := (-1)) (x := (-1 : Int32)) (by decide)) (by decide) (by decide) : iv (-1) 23 (-1 : Int32))⟩
      · have f191 : iv 0 23 y5_21 := (iv_ltl b5_21 (show iv 0 24 (ac_gi σ 13) from hI.1 13) (Int32.not_le.mp c190))
        have f192 : iv 1 24 (ac_gi σ 13) := (iv_ltr b5_21 (show iv 0 24 (ac_gi σ 13) from hI.1 13) (Int32.not_le.mp c190))
        refine at_aload_n C 0 dX5_firstToReach_30 rfl ?_
        refine gf_X5_22 C dX5_firstToReach_31 ?_
        refine at_iload C 5 dX5_firstToReach_34 rfl ?_
        refine at_iald C (c := 22) rfl (iv_in (n := 24) f191 (by decide) (by decide)) dX5_firstToReach_36 ?_
        refine at_istore C (lv' := [(6, .int (ac_ga σ 22 (y5_21).toNatClampNeg)), (0, .ref (e_q E 5)), (1, .int x1), (2, .int x2), (3, .int x3), (4, .int x4), (5, .int y5_21)]) dX5_firstToReach_37 hn6 rfl ?_
        refine at_aload_n C 1 dX5_firstToReach_39 rfl ?_
        refine gf_X5_18 C dX5_firstToReach_40 ?_
        refine at_iload C 6 dX5_firstToReach_43 rfl ?_
        refine at_iald C (c := 21) rfl (iv_in (n := 24) f191 (by decide) (by decide)) dX5_firstToReach_45 ?_
        refine at_iload_n C 3 dX5_firstToReach_46 rfl ?_
        refine at_icmp_ne C 92 dX5_firstToReach_47 (by decide) (fun c193 => ?_) (fun c193 => ?_)
        · refine at_iinc C (v := (y5_21 + (1 : Int32))) (lv' := [(5, .int (y5_21 + (1 : Int32))), (6, .int (ac_ga σ 22 (y5_21).toNatClampNeg)), (0, .ref (e_q E 5)), (1, .int x1), (2, .int x2), (3, .int x3), (4, .int x4)]) 6 dX5_firstToReach_92 rfl rfl hn5 rfl ?_
          refine at_goto C 21 dX5_firstToReach_95 (by decide) ?_
          exact at_sub [2, 3, 4, 5, 6, 0] rfl (ih21 (y5_21 + (1 : Int32)) (mz_up hm21 (ac_ti1 f191 (iv_c (c := 1) (x := (1 : Int32)) (by decide)) (by decide) (by decide) (by decide)) (by decide) (iv_wk (iv_add f191 (iv_c (c := 1) (x := (1 : Int32)) (by decide)) (by decide) (by decide)) (by decide) (by decide) : iv 0 24 (y5_21 + (1 : Int32))).2) (iv_wk (iv_add f191 (iv_c (c := 1) (x := (1 : Int32)) (by decide)) (by decide) (by decide)) (by decide) (by decide) : iv 0 24 (y5_21 + (1 : Int32))))
        · refine at_iload C 0 dX5_firstToReach_50 rfl ?_
          refine at_iload C 5 dX5_firstToReach_52 rfl ?_
          refine at_iconst C (-1 : Int32) dX5_firstToReach_54 (by decide) ?_
          refine at_ixor C dX5_firstToReach_55 ?_
          refine at_iand C dX5_firstToReach_56 ?_
          refine at_if_ne C 92 dX5_firstToReach_57 (by decide) (fun c194 => ?_) (fun c194 => ?_)
          · have f195 : iv 1 63 ((ac_ga σ 22 (y5_21).toNatClampNeg) &&& (x4 ^^^ (-1 : Int32))) := (iv_nel (iv_andl (show iv 0 63 (ac_ga σ 22 (y5_21).toNatClampNeg) from hI.2 22 _)) (by decide) c194)
            refine at_iinc C (v := (y5_21 + (1 : Int32))) (lv' := [(5, .int (y5_21 + (1 : Int32))), (6, .int (ac_ga σ 22 (y5_21).toNatClampNeg)), (0, .ref (e_q E 5)), (1, .int x1), (2, .int x2), (3, .int x3), (4, .int x4)]) 6 dX5_firstToReach_92 rfl rfl hn5 rfl ?_
            refine at_goto C 21 dX5_firstToReach_95 (by decide) ?_
            exact at_sub [2, 3, 4, 5, 6, 0] rfl (ih21 (y5_21 + (1 : Int32)) (mz_up hm21 (ac_ti1 f191 (iv_c (c := 1) (x := (1 : Int32)) (by decide)) (by decide) (by decide) (by decide)) (by decide) (iv_wk (iv_add f191 (iv_c (c := 1) (x := (1 : Int32)) (by decide)) (by decide) (by decide)) (by decide) (by decide) : iv 0 24 (y5_21 + (1 : Int32))).2) (iv_wk (iv_add f191 (iv_c (c := 1) (x := (1 : Int32)) (by decide)) (by decide) (by decide)) (by decide) (by decide) : iv 0 24 (y5_21 + (1 : Int32))))
          · have f196 : iv 0 0 ((ac_ga σ 22 (y5_21).toNatClampNeg) &&& (x4 ^^^ (-1 : Int32))) := (iv_eql (iv_c (c := 0) (x := (0 : Int32)) (by decide)) c194)
            refine at_aload_n C 1 dX5_firstToReach_60 rfl ?_
            refine gf_X5_25 C dX5_firstToReach_61 ?_
            refine at_iload C 6 dX5_firstToReach_64 rfl ?_
            refine at_iald C (c := 23) rfl (iv_in (n := 24) f191 (by decide) (by decide)) dX5_firstToReach_66 ?_
            refine at_aload_n C 1 dX5_firstToReach_67 rfl ?_
            refine gf_X5_34 C dX5_firstToReach_68 ?_
            refine at_iload_n C 4 dX5_firstToReach_71 rfl ?_
            refine at_bipush C (64 : Int32) dX5_firstToReach_72 (by decide) ?_
            refine at_imul C dX5_firstToReach_74 ?_
            refine at_iload C 5 dX5_firstToReach_75 rfl ?_
            refine at_iload C 0 dX5_firstToReach_77 rfl ?_
            refine at_iconst C (-1 : Int32) dX5_firstToReach_79 (by decide) ?_
            refine at_ixor C dX5_firstToReach_80 ?_
            refine at_iand C dX5_firstToReach_81 ?_
            refine at_iadd C dX5_firstToReach_82 ?_
            refine at_iald C (c := 26) rfl (iv_in (n := 4096) (iv_add (iv_mul g3 (iv_wk (c := 0) (iv_c (c := 64) (x := (64 : Int32)) (by decide)) (by decide) (Int.le_refl _)) (by decide)) (iv_andl g4) (by decide) (by decide)) (by decide) (by decide)) dX5_firstToReach_83 ?_
            refine at_iadd C dX5_firstToReach_84 ?_
            refine at_iload_n C 2 dX5_firstToReach_85 rfl ?_
            refine at_icmp_ne C 92 dX5_firstToReach_86 (by decide) (fun c197 => ?_) (fun c197 => ?_)
            · refine at_iinc C (v := (y5_21 + (1 : Int32))) (lv' := [(5, .int (y5_21 + (1 : Int32))), (6, .int (ac_ga σ 22 (y5_21).toNatClampNeg)), (0, .ref (e_q E 5)), (1, .int x1), (2, .int x2), (3, .int x3), (4, .int x4)]) 6 dX5_firstToReach_92 rfl rfl hn5 rfl ?_
              refine at_goto C 21 dX5_firstToReach_95 (by decide) ?_
              exact at_sub [2, 3, 4, 5, 6, 0] rfl (ih21 (y5_21 + (1 : Int32)) (mz_up hm21 (ac_ti1 f191 (iv_c (c := 1) (x := (1 : Int32)) (by decide)) (by decide) (by decide) (by decide)) (by decide) (iv_wk (iv_add f191 (iv_c (c := 1) (x := (1 : Int32)) (by decide)) (by decide) (by decide)) (by decide) (by decide) : iv 0 24 (y5_21 + (1 : Int32))).2) (iv_wk (iv_add f191 (iv_c (c := 1) (x := (1 : Int32)) (by decide)) (by decide) (by decide)) (by decide) (by decide) : iv 0 24 (y5_21 + (1 : Int32))))
            · refine at_iload C 6 dX5_firstToReach_89 rfl ?_
              exact hR _ _ _ _ dX5_firstToReach_91 ⟨rfl, (iv_wk f191 (by decide) (by decide) : iv (-1) 23 y5_21)⟩
  refine at_aload_n C 0 dX5_firstToReach_0 rfl ?_
  refine gf_X5_34 C dX5_firstToReach_1 ?_
  refine at_iload_n C 3 dX5_firstToReach_4 rfl ?_
  refine at_bipush C (64 : Int32) dX5_firstToReach_5 (by decide) ?_
  refine at_imul C dX5_firstToReach_7 ?_
  refine at_iload C 4 dX5_firstToReach_8 rfl ?_
  refine at_iadd C dX5_firstToReach_10 ?_
  refine at_iald C (c := 26) rfl (iv_in (n := 4096) (iv_add (iv_mul g3 (iv_wk (c := 0) (iv_c (c := 64) (x := (64 : Int32)) (by decide)) (by decide) (Int.le_refl _)) (by decide)) g4 (by decide) (by decide)) (by decide) (by decide)) dX5_firstToReach_11 ?_
  refine at_iload_n C 1 dX5_firstToReach_12 rfl ?_
  refine at_icmp_ne C 18 dX5_firstToReach_13 (by decide) (fun c198 => ?_) (fun c198 => ?_)
  · refine at_iconst C (0 : Int32) dX5_firstToReach_18 (by decide) ?_
    refine at_istore C (lv' := [(5, .int (0 : Int32)), (0, .ref (e_q E 5)), (1, .int x1), (2, .int x2), (3, .int x3), (4, .int x4)]) dX5_firstToReach_19 hn5 rfl ?_
    exact at_sub [1, 2, 3, 4, 5, 0] rfl (K21 _ (0 : Int32) (Nat.lt_succ_self _) (iv_wk (iv_c (c := 0) (x := (0 : Int32)) (by decide)) (by decide) (by decide) : iv 0 24 (0 : Int32)))
  · refine at_iconst C (-1 : Int32) dX5_firstToReach_16 (by decide) ?_
    exact hR _ _ _ _ dX5_firstToReach_17 ⟨rfl, (iv_wk (iv_c (c := (-1)) (x := (-1 : Int32)) (by decide)) (by decide) (by decide) : iv (-1) 23 (-1 : Int32))⟩
set_option maxHeartbeats 4000000 in
set_option maxRecDepth 100000 in
theorem ct_X5_raise (σ : SS) (x1 : Int32) (x2 : Int32) (x3 : Int32) (x4 : Int32) (hI : Inv σ) (g1 : iv 0 63 x1) (g2 : iv 0 63 x2) (g3 : iv 0 63 x3) : ConV yX5_raise cX5_raise 8 none 1 (some 5) [.int x1, .int x2, .int x3, .int x4] σ (fun σ' => Gd σ σ') := by
  refine conV_of (by decide) (fun q => Nat.le_of_ble_eq_true rfl) (fun E C en hR => ?_)
  have hn5 : 5 < e_n E := by rw [en]; decide
  have hn6 : 6 < e_n E := by rw [en]; decide
  have hn7 : 7 < e_n E := by rw [en]; decide
  have hG0 : Gd σ σ := Gd.rf hI
  have K3 : ∀ (n3 : Nat) (y5_3 : Int32) (s3 : SS), (64 - (y5_3).toInt).toNat < n3 → iv 0 64 y5_3 → Gd σ s3 → AT E 3 [(0, .ref (e_q E 5)), (1, .int x1), (2, .int x2), (3, .int x3), (4, .int x4), (5, .int y5_3)] [] s3 := by
    intro n3
    induction n3 with
    | zero => intro y5_3 s3 hm; exact absurd hm (Nat.not_lt_zero _)
    | succ n3 ih3 =>
      intro y5_3 s3 hm3 b5_3 hG_3
      refine at_iload C 5 dX5_raise_3 rfl ?_
      refine at_bipush C (64 : Int32) dX5_raise_5 (by decide) ?_
      refine at_icmp_ge C 74 dX5_raise_7 (by decide) (fun c55 => ?_) (fun c55 => ?_)
      · have f56 : iv 64 64 y5_3 := (iv_ler (iv_c (c := 64) (x := (64 : Int32)) (by decide)) b5_3 c55)
        exact hR _ _ _ dX5_raise_74 hG_3
      · have f57 : iv 0 63 y5_3 := (iv_ltl b5_3 (iv_c (c := 64) (x := (64 : Int32)) (by decide)) (Int32.not_le.mp c55))
        refine at_iload_n C 3 dX5_raise_10 rfl ?_
        refine at_iload C 5 dX5_raise_11 rfl ?_
        refine at_iconst C (-1 : Int32) dX5_raise_13 (by decide) ?_
        refine at_ixor C dX5_raise_14 ?_
        refine at_iand C dX5_raise_15 ?_
        refine at_if_ne C 68 dX5_raise_16 (by decide) (fun c58 => ?_) (fun c58 => ?_)
        · have f59 : iv 1 63 (x3 &&& (y5_3 ^^^ (-1 : Int32))) := (iv_nel (iv_andl g3) (by decide) c58)
          refine at_iinc C (v := (y5_3 + (1 : Int32))) (lv' := [(5, .int (y5_3 + (1 : Int32))), (0, .ref (e_q E 5)), (1, .int x1), (2, .int x2), (3, .int x3), (4, .int x4)]) 5 dX5_raise_68 rfl rfl hn5 rfl ?_
          refine at_goto C 3 dX5_raise_71 (by decide) ?_
          exact at_sub [1, 2, 3, 4, 5, 0] rfl (ih3 (y5_3 + (1 : Int32)) s3 (mz_up hm3 (ac_ti1 f57 (iv_c (c := 1) (x := (1 : Int32)) (by decide)) (by decide) (by decide) (by decide)) (by decide) (iv_wk (iv_add f57 (iv_c (c := 1) (x := (1 : Int32)) (by decide)) (by decide) (by decide)) (by decide) (by decide) : iv 0 64 (y5_3 + (1 : Int32))).2) (iv_wk (iv_add f57 (iv_c (c := 1) (x := (1 : Int32)) (by decide)) (by decide) (by decide)) (by decide) (by decide) : iv 0 64 (y5_3 + (1 : Int32))) hG_3)
        · have f60 : iv 0 0 (x3 &&& (y5_3 ^^^ (-1 : Int32))) := (iv_eql (iv_c (c := 0) (x := (0 : Int32)) (by decide)) c58)
          refine at_iload C 4 dX5_raise_19 rfl ?_
          refine at_aload_n C 0 dX5_raise_21 rfl ?_
          refine gf_X5_34 C dX5_raise_22 ?_
          refine at_iload_n C 2 dX5_raise_25 rfl ?_
          refine at_bipush C (64 : Int32) dX5_raise_26 (by decide) ?_
          refine at_imul C dX5_raise_28 ?_
          refine at_iload C 5 dX5_raise_29 rfl ?_
          refine at_iload_n C 3 dX5_raise_31 rfl ?_
          refine at_iconst C (-1 : Int32) dX5_raise_32 (by decide) ?_
          refine at_ixor C dX5_raise_33 ?_
          refine at_iand C dX5_raise_34 ?_
          refine at_iadd C dX5_raise_35 ?_
          refine at_iald C (c := 26) rfl (iv_in (n := 4096) (iv_add (iv_mul g2 (iv_wk (c := 0) (iv_c (c := 64) (x := (64 : Int32)) (by decide)) (by decide) (Int.le_refl _)) (by decide)) (iv_andl f57) (by decide) (by decide)) (by decide) (by decide)) dX5_raise_36 ?_
          refine at_iadd C dX5_raise_37 ?_
          refine at_istore C (lv' := [(6, .int (x4 + (ac_ga s3 26 (((x2 * (64 : Int32)) + (y5_3 &&& (x3 ^^^ (-1 : Int32))))).toNatClampNeg))), (0, .ref (e_q E 5)), (1, .int x1), (2, .int x2), (3, .int x3), (4, .int x4), (5, .int y5_3)]) dX5_raise_38 hn6 rfl ?_
          refine at_iload_n C 2 dX5_raise_40 rfl ?_
          refine at_bipush C (64 : Int32) dX5_raise_41 (by decide) ?_
          refine at_imul C dX5_raise_43 ?_
          refine at_iload C 6 dX5_raise_44 rfl ?_
          refine at_iadd C dX5_raise_46 ?_
          refine at_istore C (lv' := [(7, .int ((x1 * (64 : Int32)) + y5_3)), (6, .int (x4 + (ac_ga s3 26 (((x2 * (64 : Int32)) + (y5_3 &&& (x3 ^^^ (-1 : Int32))))).toNatClampNeg))), (0, .ref (e_q E 5)), (1, .int x1), (2, .int x2), (3, .int x3), (4, .int x4), (5, .int y5_3)]) dX5_raise_47 hn7 rfl ?_
          refine at_aload_n C 2 dX5_raise_49 rfl ?_
          refine gf_X5_34 C dX5_raise_50 ?_
          refine at_iload C 0 dX5_raise_53 rfl ?_
          refine at_aload_n C 2 dX5_raise_55 rfl ?_
          refine gf_X5_34 C dX5_raise_56 ?_
          refine at_iload C 0 dX5_raise_59 rfl ?_
          refine at_iald C (c := 26) rfl (iv_in (n := 4096) (iv_add (iv_mul g1 (iv_wk (c := 0) (iv_c (c := 64) (x := (64 : Int32)) (by decide)) (by decide) (Int.le_refl _)) (by decide)) f57 (by decide) (by decide)) (by decide) (by decide)) dX5_raise_61 ?_
          refine at_iload C 1 dX5_raise_62 rfl ?_
          refine at_mmax C ml_X5_71 (by decide) (Nat.le_of_ble_eq_true rfl) dX5_raise_64 ?_
          refine at_iast C (c := 26) rfl (fun f => ac_ast_26 _ _ _ _ f) (iv_in (n := 4096) (iv_add (iv_mul g1 (iv_wk (c := 0) (iv_c (c := 64) (x := (64 : Int32)) (by decide)) (by decide) (Int.le_refl _)) (by decide)) f57 (by decide) (by decide)) (by decide) (by decide)) dX5_raise_67 ?_
          have hG61 := Gd.sa (c := 26) (i := (((x1 * (64 : Int32)) + y5_3)).toNatClampNeg) hG_3 rfl (show iv (-2147483648) 2147483647 (ac_max (ac_ga s3 26 (((x1 * (64 : Int32)) + y5_3)).toNatClampNeg) (x4 + (ac_ga s3 26 (((x2 * (64 : Int32)) + (y5_3 &&& (x3 ^^^ (-1 : Int32))))).toNatClampNeg))) from (iv_max (iv_any (ac_ga s3 26 (((x1 * (64 : Int32)) + y5_3)).toNatClampNeg)) (iv_any (x4 + (ac_ga s3 26 (((x2 * (64 : Int32)) + (y5_3 &&& (x3 ^^^ (-1 : Int32))))).toNatClampNeg)))))
          refine at_iinc C (v := (y5_3 + (1 : Int32))) (lv' := [(5, .int (y5_3 + (1 : Int32))), (7, .int ((x1 * (64 : Int32)) + y5_3)), (6, .int (x4 + (ac_ga s3 26 (((x2 * (64 : Int32)) + (y5_3 &&& (x3 ^^^ (-1 : Int32))))).toNatClampNeg))), (0, .ref (e_q E 5)), (1, .int x1), (2, .int x2), (3, .int x3), (4, .int x4)]) 7 dX5_raise_68 rfl rfl hn5 rfl ?_
          refine at_goto C 3 dX5_raise_71 (by decide) ?_
          exact at_sub [3, 4, 5, 6, 7, 0] rfl (ih3 (y5_3 + (1 : Int32)) (ac_sa s3 26 (upd (ac_ga s3 26) (((x1 * (64 : Int32)) + y5_3)).toNatClampNeg (ac_max (ac_ga s3 26 (((x1 * (64 : Int32)) + y5_3)).toNatClampNeg) (x4 + (ac_ga s3 26 (((x2 * (64 : Int32)) + (y5_3 &&& (x3 ^^^ (-1 : Int32))))).toNatClampNeg))))) (mz_up hm3 (ac_ti1 f57 (iv_c (c := 1) (x := (1 : Int32)) (by decide)) (by decide) (by decide) (by decide)) (by decide) (iv_wk (iv_add f57 (iv_c (c := 1) (x := (1 : Int32)) (by decide)) (by decide) (by decide)) (by decide) (by decide) : iv 0 64 (y5_3 + (1 : Int32))).2) (iv_wk (iv_add f57 (iv_c (c := 1) (x := (1 : Int32)) (by decide)) (by decide) (by decide)) (by decide) (by decide) : iv 0 64 (y5_3 + (1 : Int32))) hG61)
  refine at_iload_n C 3 dX5_raise_0 rfl ?_
  refine at_istore C (lv' := [(5, .int x3), (0, .ref (e_q E 5)), (1, .int x1), (2, .int x2), (3, .int x3), (4, .int x4)]) dX5_raise_1 hn5 rfl ?_
  exact at_sub [1, 2, 3, 4, 5, 0] rfl (K3 _ x3 σ (Nat.lt_succ_self _) (iv_wk g3 (by decide) (by decide) : iv 0 64 x3) hG0)
set_option maxHeartbeats 4000000 in
set_option maxRecDepth 100000 in
theorem ct_X5_weigh (σ : SS) (hI : Inv σ) : ConV yX5_weigh cX5_weigh 5 none 2 (some 5) [] σ (fun σ' => Gd σ σ') := by
  refine conV_of (by decide) (fun q => Nat.le_of_ble_eq_true rfl) (fun E C en hR => ?_)
  have hn1 : 1 < e_n E := by rw [en]; decide
  have hn2 : 2 < e_n E := by rw [en]; decide
  have hn3 : 3 < e_n E := by rw [en]; decide
  have hn4 : 4 < e_n E := by rw [en]; decide
  have hG0 : Gd σ σ := Gd.rf hI
  have K10 : ∀ (n10 : Nat) (y1_10 : Int32) (s10 : SS), (64 - (y1_10).toInt).toNat < n10 → iv 1 64 y1_10 → Gd σ s10 → AT E 10 [(0, .ref (e_q E 5)), (1, .int y1_10)] [] s10 := by
    intro n10
    induction n10 with
    | zero => intro y1_10 s10 hm; exact absurd hm (Nat.not_lt_zero _)
    | succ n10 ih10 =>
      intro y1_10 s10 hm10 b1_10 hG_10
      have K57 : ∀ (n57 : Nat) (y2_57 : Int32) (y3_57 : Int32) (y4_57 : Int32) (s57 : SS), (24 - (y4_57).toInt).toNat < n57 → iv 1 63 y1_10 → iv 0 63 y2_57 → iv 0 63 y3_57 → iv 0 24 y4_57 → Gd σ s57 → AT E 57 [(0, .ref (e_q E 5)), (1, .int y1_10), (2, .int y2_57), (3, .int y3_57), (4, .int y4_57)] [] s57 := by
        intro n57
        induction n57 with
        | zero => intro y2_57 y3_57 y4_57 s57 hm; exact absurd hm (Nat.not_lt_zero _)
        | succ n57 ih57 =>
          intro y2_57 y3_57 y4_57 s57 hm57 b1_57 b2_57 b3_57 b4_57 hG_57
          refine at_iload C 4 dX5_weigh_57 rfl ?_
          refine at_aload_n C 0 dX5_weigh_59 rfl ?_
          refine gf_X5_15 C dX5_weigh_60 ?_
          refine at_icmp_ge C 103 dX5_weigh_63 (by decide) (fun c501 => ?_) (fun c501 => ?_)
          · refine at_iinc C (v := (y1_10 + (1 : Int32))) (lv' := [(1, .int (y1_10 + (1 : Int32))), (0, .ref (e_q E 5)), (2, .int y2_57), (3, .int y3_57), (4, .int y4_57)]) 1 dX5_weigh_103 rfl rfl hn1 rfl ?_
            refine at_goto C 10 dX5_weigh_106 (by decide) ?_
            exact at_sub [1, 0] rfl (ih10 (y1_10 + (1 : Int32)) s57 (mz_up hm10 (ac_ti1 b1_57 (iv_c (c := 1) (x := (1 : Int32)) (by decide)) (by decide) (by decide) (by decide)) (by decide) (iv_wk (iv_add b1_57 (iv_c (c := 1) (x := (1 : Int32)) (by decide)) (by decide) (by decide)) (by decide) (by decide) : iv 1 64 (y1_10 + (1 : Int32))).2) (iv_wk (iv_add b1_57 (iv_c (c := 1) (x := (1 : Int32)) (by decide)) (by decide) (by decide)) (by decide) (by decide) : iv 1 64 (y1_10 + (1 : Int32))) hG_57)
          · have f502 : iv 0 23 y4_57 := (iv_ltl b4_57 (show iv 0 24 (ac_gi s57 13) from hG_57.1.1 13) (Int32.not_le.mp c501))
            have f503 : iv 1 24 (ac_gi s57 13) := (iv_ltr b4_57 (show iv 0 24 (ac_gi s57 13) from hG_57.1.1 13) (Int32.not_le.mp c501))
            refine at_aload_n C 0 dX5_weigh_66 rfl ?_
            refine gf_X5_18 C dX5_weigh_67 ?_
            refine at_iload C 4 dX5_weigh_70 rfl ?_
            refine at_iald C (c := 21) rfl (iv_in (n := 24) f502 (by decide) (by decide)) dX5_weigh_72 ?_
            refine at_iload_n C 3 dX5_weigh_73 rfl ?_
            refine at_icmp_ne C 97 dX5_weigh_74 (by decide) (fun c504 => ?_) (fun c504 => ?_)
            · refine at_iinc C (v := (y4_57 + (1 : Int32))) (lv' := [(4, .int (y4_57 + (1 : Int32))), (0, .ref (e_q E 5)), (1, .int y1_10), (2, .int y2_57), (3, .int y3_57)]) 4 dX5_weigh_97 rfl rfl hn4 rfl ?_
              refine at_goto C 57 dX5_weigh_100 (by decide) ?_
              exact at_sub [1, 2, 3, 4, 0] rfl (ih57 y2_57 y3_57 (y4_57 + (1 : Int32)) s57 (mz_up hm57 (ac_ti1 f502 (iv_c (c := 1) (x := (1 : Int32)) (by decide)) (by decide) (by decide) (by decide)) (by decide) (iv_wk (iv_add f502 (iv_c (c := 1) (x := (1 : Int32)) (by decide)) (by decide) (by decide)) (by decide) (by decide) : iv 0 24 (y4_57 + (1 : Int32))).2) (show iv 1 63 y1_10 from b1_57) (show iv 0 63 y2_57 from b2_57) (show iv 0 63 y3_57 from b3_57) (iv_wk (iv_add f502 (iv_c (c := 1) (x := (1 : Int32)) (by decide)) (by decide) (by decide)) (by decide) (by decide) : iv 0 24 (y4_57 + (1 : Int32))) hG_57)
            · have f505 : iv 0 63 (ac_ga s57 21 (y4_57).toNatClampNeg) := (iv_eql b3_57 c504)
              refine at_aload_n C 0 dX5_weigh_77 rfl ?_
              refine at_iload_n C 1 dX5_weigh_78 rfl ?_
              refine at_iload_n C 2 dX5_weigh_79 rfl ?_
              refine at_aload_n C 0 dX5_weigh_80 rfl ?_
              refine gf_X5_22 C dX5_weigh_81 ?_
              refine at_iload C 4 dX5_weigh_84 rfl ?_
              refine at_iald C (c := 22) rfl (iv_in (n := 24) f502 (by decide) (by decide)) dX5_weigh_86 ?_
              refine at_aload_n C 0 dX5_weigh_87 rfl ?_
              refine gf_X5_25 C dX5_weigh_88 ?_
              refine at_iload C 4 dX5_weigh_91 rfl ?_
              refine at_iald C (c := 23) rfl (iv_in (n := 24) f502 (by decide) (by decide)) dX5_weigh_93 ?_
              refine at_Vv C (As := [.int y1_10, .int y2_57, .int (ac_ga s57 22 (y4_57).toNatClampNeg), .int (ac_ga s57 23 (y4_57).toNatClampNeg)]) (st := []) (b := 5) (ci := 5) (ct_X5_raise s57 y1_10 y2_57 (ac_ga s57 22 (y4_57).toNatClampNeg) (ac_ga s57 23 (y4_57).toNatClampNeg) hG_57.1 (iv_wk b1_57 (by decide) (by decide) : iv 0 63 y1_10) (show iv 0 63 y2_57 from b2_57) (show iv 0 63 (ac_ga s57 22 (y4_57).toNatClampNeg) from (show iv 0 63 (ac_ga s57 22 (y4_57).toNatClampNeg) from hG_57.1.2 22 _))) mb_X5_raise ml_X5_92 rfl rfl rfl (by decide) rfl (Nat.le_of_ble_eq_true rfl) dX5_weigh_94 ?_
              rintro u506 hg507
              have hG508 := hG_57.tr hg507
              refine at_iinc C (v := (y4_57 + (1 : Int32))) (lv' := [(4, .int (y4_57 + (1 : Int32))), (0, .ref (e_q E 5)), (1, .int y1_10), (2, .int y2_57), (3, .int y3_57)]) 4 dX5_weigh_97 rfl rfl hn4 rfl ?_
              refine at_goto C 57 dX5_weigh_100 (by decide) ?_
              exact at_sub [1, 2, 3, 4, 0] rfl (ih57 y2_57 y3_57 (y4_57 + (1 : Int32)) u506 (mz_up hm57 (ac_ti1 f502 (iv_c (c := 1) (x := (1 : Int32)) (by decide)) (by decide) (by decide) (by decide)) (by decide) (iv_wk (iv_add f502 (iv_c (c := 1) (x := (1 : Int32)) (by decide)) (by decide) (by decide)) (by decide) (by decide) : iv 0 24 (y4_57 + (1 : Int32))).2) (show iv 1 63 y1_10 from b1_57) (show iv 0 63 y2_57 from b2_57) (show iv 0 63 y3_57 from b3_57) (iv_wk (iv_add f502 (iv_c (c := 1) (x := (1 : Int32)) (by decide)) (by decide) (by decide)) (by decide) (by decide) : iv 0 24 (y4_57 + (1 : Int32))) hG508)
      refine at_iload_n C 1 dX5_weigh_10 rfl ?_
      refine at_aload_n C 0 dX5_weigh_11 rfl ?_
      refine at_Vi C (As := []) (st := [.int y1_10]) (b := 5) (ci := 5) (ct_X5_allHouses s10) mb_X5_allHouses ml_X5_41 rfl rfl rfl (by decide) rfl (Nat.le_of_ble_eq_true rfl) dX5_weigh_12 ?_
      rintro _ _ ⟨rfl, rfl⟩
      refine at_icmp_gt C 109 dX5_weigh_15 (by decide) (fun c511 => ?_) (fun c511 => ?_)
      · refine at_aload_n C 0 dX5_weigh_109 rfl ?_
        refine at_iconst C (0 : Int32) dX5_weigh_110 (by decide) ?_
        refine pf_X5_37 C rfl rfl dX5_weigh_111 ?_
        have hG512 := Gd.si (k := 14) hG_10 rfl (iv_wk (iv_c (c := 0) (x := (0 : Int32)) (by decide)) (by decide) (by decide) : iv 0 1 (0 : Int32))
        exact hR _ _ _ dX5_weigh_114 hG512
      · have f513 : iv 1 63 y1_10 := (iv_lel b1_10 (iv_sub (iv_shl1 (a := 0) (b := 6) (show iv 0 6 (ac_gi s10 12) from hG_10.1.1 12) (by decide)) (iv_c (c := 1) (x := (1 : Int32)) (by decide)) (by decide) (by decide)) (Int32.not_lt.mp c511))
        have f514 : iv 1 63 (((1 : Int32) <<< ((ac_gi s10 12) &&& 31)) - (1 : Int32)) := (iv_ler b1_10 (iv_sub (iv_shl1 (a := 0) (b := 6) (show iv 0 6 (ac_gi s10 12) from hG_10.1.1 12) (by decide)) (iv_c (c := 1) (x := (1 : Int32)) (by decide)) (by decide) (by decide)) (Int32.not_lt.mp c511))
        refine at_iload_n C 1 dX5_weigh_18 rfl ?_
        refine at_iload_n C 1 dX5_weigh_19 rfl ?_
        refine at_iconst C (1 : Int32) dX5_weigh_20 (by decide) ?_
        refine at_isub C dX5_weigh_21 ?_
        refine at_iand C dX5_weigh_22 ?_
        refine at_istore_n C (lv' := [(2, .int (y1_10 &&& (y1_10 - (1 : Int32)))), (0, .ref (e_q E 5)), (1, .int y1_10)]) dX5_weigh_23 hn2 rfl ?_
        refine at_iload_n C 2 dX5_weigh_24 rfl ?_
        refine at_iload_n C 0 dX5_weigh_25 rfl ?_
        refine at_iconst C (-1 : Int32) dX5_weigh_26 (by decide) ?_
        refine at_ixor C dX5_weigh_27 ?_
        refine at_iand C dX5_weigh_28 ?_
        refine at_Ni C (As := [.int (y1_10 &&& ((y1_10 &&& (y1_10 - (1 : Int32))) ^^^ (-1 : Int32)))]) (st := []) (ct_X6_placeOf s10 (y1_10 &&& ((y1_10 &&& (y1_10 - (1 : Int32))) ^^^ (-1 : Int32)))) mb_X6_placeOf ml_X5_83 rfl (by decide) rfl (Nat.le_of_ble_eq_true rfl) dX5_weigh_29 ?_
        rintro r515 _ ⟨rfl, f516⟩
        refine at_istore_n C (lv' := [(3, .int r515), (2, .int (y1_10 &&& (y1_10 - (1 : Int32)))), (0, .ref (e_q E 5)), (1, .int y1_10)]) dX5_weigh_32 hn3 rfl ?_
        refine at_aload_n C 2 dX5_weigh_33 rfl ?_
        refine gf_X5_34 C dX5_weigh_34 ?_
        refine at_iload_n C 1 dX5_weigh_37 rfl ?_
        refine at_bipush C (64 : Int32) dX5_weigh_38 (by decide) ?_
        refine at_imul C dX5_weigh_40 ?_
        refine at_aload_n C 2 dX5_weigh_41 rfl ?_
        refine gf_X5_34 C dX5_weigh_42 ?_
        refine at_iload_n C 3 dX5_weigh_45 rfl ?_
        refine at_bipush C (64 : Int32) dX5_weigh_46 (by decide) ?_
        refine at_imul C dX5_weigh_48 ?_
        refine at_bipush C (64 : Int32) dX5_weigh_49 (by decide) ?_
        refine at_copy C (c := 26) rfl (fun f => ac_ast_26 _ _ _ _ f) ml_X5_86 wd_native wd_static wd_inis (iv_nn (iv_mul (iv_andr (iv_sub f513 (iv_c (c := 1) (x := (1 : Int32)) (by decide)) (by decide) (by decide))) (iv_wk (c := 0) (iv_c (c := 64) (x := (64 : Int32)) (by decide)) (by decide) (Int.le_refl _)) (by decide)) (by decide)) (iv_nn (iv_mul (iv_wk (c := 0) f513 (by decide) (Int.le_refl _)) (iv_wk (c := 0) (iv_c (c := 64) (x := (64 : Int32)) (by decide)) (by decide) (Int.le_refl _)) (by decide)) (by decide)) (iv_nn (iv_c (c := 64) (x := (64 : Int32)) (by decide)) (by decide)) (iv_s2 (iv_mul (iv_andr (iv_sub f513 (iv_c (c := 1) (x := (1 : Int32)) (by decide)) (by decide) (by decide))) (iv_wk (c := 0) (iv_c (c := 64) (x := (64 : Int32)) (by decide)) (by decide) (Int.le_refl _)) (by decide)) (iv_c (c := 64) (x := (64 : Int32)) (by decide)) (by decide) (by decide) (by decide)) (iv_s2 (iv_mul (iv_wk (c := 0) f513 (by decide) (Int.le_refl _)) (iv_wk (c := 0) (iv_c (c := 64) (x := (64 : Int32)) (by decide)) (by decide) (Int.le_refl _)) (by decide)) (iv_c (c := 64) (x := (64 : Int32)) (by decide)) (by decide) (by decide) (by decide)) (by decide) (Nat.le_of_ble_eq_true rfl) dX5_weigh_51 ?_
        have hG517 := Gd.cpy (c := 26) (a := (((y1_10 &&& (y1_10 - (1 : Int32))) * (64 : Int32))).toNatClampNeg) (b := ((y1_10 * (64 : Int32))).toNatClampNeg) (z := ((64 : Int32)).toNatClampNeg) hG_10 rfl rfl rfl
        refine at_iconst C (0 : Int32) dX5_weigh_54 (by decide) ?_
        refine at_istore C (lv' := [(4, .int (0 : Int32)), (3, .int r515), (2, .int (y1_10 &&& (y1_10 - (1 : Int32)))), (0, .ref (e_q E 5)), (1, .int y1_10)]) dX5_weigh_55 hn4 rfl ?_
        exact at_sub [3, 4, 2, 1, 0] rfl (K57 _ (y1_10 &&& (y1_10 - (1 : Int32))) r515 (0 : Int32) (ac_sa s10 26 (va_cpy (ac_ga s10 26) (ac_ga s10 26) (((y1_10 &&& (y1_10 - (1 : Int32))) * (64 : Int32))).toNatClampNeg ((y1_10 * (64 : Int32))).toNatClampNeg ((64 : Int32)).toNatClampNeg)) (Nat.lt_succ_self _) (show iv 1 63 y1_10 from f513) (iv_wk (iv_andr (iv_sub f513 (iv_c (c := 1) (x := (1 : Int32)) (by decide)) (by decide) (by decide))) (by decide) (by decide) : iv 0 63 (y1_10 &&& (y1_10 - (1 : Int32)))) (show iv 0 63 r515 from f516) (iv_wk (iv_c (c := 0) (x := (0 : Int32)) (by decide)) (by decide) (by decide) : iv 0 24 (0 : Int32)) hG517)
  refine at_aload_n C 0 dX5_weigh_0 rfl ?_
  refine gf_X5_37 C dX5_weigh_1 ?_
  refine at_if_ne C 8 dX5_weigh_4 (by decide) (fun c518 => ?_) (fun c518 => ?_)
  · have f519 : iv 1 1 (ac_gi σ 14) := (iv_nel (show iv 0 1 (ac_gi σ 14) from hI.1 14) (by decide) c518)
    refine at_iconst C (1 : Int32) dX5_weigh_8 (by decide) ?_
    refine at_istore_n C (lv' := [(1, .int (1 : Int32)), (0, .ref (e_q E 5))]) dX5_weigh_9 hn1 rfl ?_
    exact at_sub [1, 0] rfl (K10 _ (1 : Int32) σ (Nat.lt_succ_self _) (iv_wk (iv_c (c := 1) (x := (1 : Int32)) (by decide)) (by decide) (by decide) : iv 1 64 (1 : Int32)) hG0)
  · have f520 : iv 0 0 (ac_gi σ 14) := (iv_eql (iv_c (c := 0) (x := (0 : Int32)) (by decide)) c518)
    exact hR _ _ _ dX5_weigh_7 hG0
set_option maxHeartbeats 4000000 in
set_option maxRecDepth 100000 in
theorem ct_X5_greatest (σ : SS) (x1 : Int32) (hI : Inv σ) : ConI yX5_greatest cX5_greatest 2 (some .int) 3 (some 5) [.int x1] σ (fun r σ' => Gd σ σ' ∧ iv (-2147483648) 2147483647 r) := by
  refine conI_of (by decide) (fun q => Nat.le_of_ble_eq_true rfl) (fun E C en hR => ?_)
  have hG0 : Gd σ σ := Gd.rf hI
  refine at_aload_n C 0 dX5_greatest_0 rfl ?_
  refine at_iload_n C 1 dX5_greatest_1 rfl ?_
  refine at_Vi C (As := [.int x1]) (st := []) (b := 5) (ci := 5) (ct_X5_isGroup σ x1) mb_X5_isGroup ml_X5_45 rfl rfl rfl (by decide) rfl (Nat.le_of_ble_eq_true rfl) dX5_greatest_2 ?_
  rintro _ _ ⟨rfl, ⟨rfl, c57⟩ | ⟨rfl, c57⟩⟩
  · have f59 : iv 0 63 x1 := (iv_of4 c57 (iv_sub (iv_shl1 (a := 0) (b := 6) (show iv 0 6 (ac_gi σ 12) from hI.1 12) (by decide)) (iv_c (c := 1) (x := (1 : Int32)) (by decide)) (by decide) (by decide)))
    refine at_if_ne C 10 dX5_greatest_5 (by decide) (fun c60 => ?_) (fun c60 => absurd c60 (iv_xeq (iv_c (c := 1) (x := (1 : Int32)) (by decide)) (iv_c (c := 0) (x := (0 : Int32)) (by decide)) (by decide)))
    refine at_aload_n C 0 dX5_greatest_10 rfl ?_
    refine at_Vv C (As := []) (st := []) (b := 5) (ci := 5) (ct_X5_weigh σ hI) mb_X5_weigh ml_X5_49 rfl rfl rfl (by decide) rfl (Nat.le_of_ble_eq_true rfl) dX5_greatest_11 ?_
    rintro u61 hg62
    have hG63 := hG0.tr hg62
    refine at_aload_n C 0 dX5_greatest_14 rfl ?_
    refine gf_X5_34 C dX5_greatest_15 ?_
    refine at_iload_n C 1 dX5_greatest_18 rfl ?_
    refine at_bipush C (64 : Int32) dX5_greatest_19 (by decide) ?_
    refine at_imul C dX5_greatest_21 ?_
    refine at_bipush C (64 : Int32) dX5_greatest_22 (by decide) ?_
    refine at_iadd C dX5_greatest_24 ?_
    refine at_iconst C (1 : Int32) dX5_greatest_25 (by decide) ?_
    refine at_isub C dX5_greatest_26 ?_
    refine at_iald C (c := 26) rfl (iv_in (n := 4096) (iv_sub (iv_add (iv_mul f59 (iv_wk (c := 0) (iv_c (c := 64) (x := (64 : Int32)) (by decide)) (by decide) (Int.le_refl _)) (by decide)) (iv_c (c := 64) (x := (64 : Int32)) (by decide)) (by decide) (by decide)) (iv_c (c := 1) (x := (1 : Int32)) (by decide)) (by decide) (by decide)) (by decide) (by decide)) dX5_greatest_27 ?_
    exact hR _ _ _ _ dX5_greatest_28 ⟨hG63, (show iv (-2147483648) 2147483647 (ac_ga u61 26 ((((x1 * (64 : Int32)) + (64 : Int32)) - (1 : Int32))).toNatClampNeg) from (iv_any (ac_ga u61 26 ((((x1 * (64 : Int32)) + (64 : Int32)) - (1 : Int32))).toNatClampNeg)))⟩
  · refine at_if_ne C 10 dX5_greatest_5 (by decide) (fun c64 => absurd (iv_xne (iv_c (c := 0) (x := (0 : Int32)) (by decide)) (iv_c (c := 0) (x := (0 : Int32)) (by decide))) c64) (fun c64 => ?_)
    refine at_iconst C (0 : Int32) dX5_greatest_8 (by decide) ?_
    exact hR _ _ _ _ dX5_greatest_9 ⟨hG0, (iv_wk (iv_c (c := 0) (x := (0 : Int32)) (by decide)) (by decide) (by decide) : iv (-2147483648) 2147483647 (0 : Int32))⟩
set_option maxHeartbeats 4000000 in
set_option maxRecDepth 100000 in
theorem ct_X5_share (σ : SS) (x1 : Int32) (hI : Inv σ) : ConV yX5_share cX5_share 6 none 3 (some 5) [.int x1] σ (fun σ' => Gd σ σ') := by
  refine conV_of (by decide) (fun q => Nat.le_of_ble_eq_true rfl) (fun E C en hR => ?_)
  have hn2 : 2 < e_n E := by rw [en]; decide
  have hn3 : 3 < e_n E := by rw [en]; decide
  have hn4 : 4 < e_n E := by rw [en]; decide
  have hn5 : 5 < e_n E := by rw [en]; decide
  have hG0 : Gd σ σ := Gd.rf hI
  have K17 : ∀ (n17 : Nat) (y2_17 : Int32) (y3_17 : Int32) (y4_17 : Int32) (s17 : SS), (6 - (y4_17).toInt).toNat < n17 → iv 0 63 y2_17 → iv 0 63 y3_17 → iv 0 6 y4_17 → Gd σ s17 → AT E 17 [(0, .ref (e_q E 5)), (2, .int y2_17), (3, .int y3_17), (4, .int y4_17)] [] s17 := by
    intro n17
    induction n17 with
    | zero => intro y2_17 y3_17 y4_17 s17 hm; exact absurd hm (Nat.not_lt_zero _)
    | succ n17 ih17 =>
      intro y2_17 y3_17 y4_17 s17 hm17 b2_17 b3_17 b4_17 hG_17
      refine at_iload C 3 dX5_share_17 rfl ?_
      refine at_aload_n C 0 dX5_share_19 rfl ?_
      refine gf_X5_9 C dX5_share_20 ?_
      refine at_icmp_ge C 121 dX5_share_23 (by decide) (fun c229 => ?_) (fun c229 => ?_)
      · exact hR _ _ _ dX5_share_121 hG_17
      · have f230 : iv 0 5 y4_17 := (iv_ltl b4_17 (show iv 0 6 (ac_gi s17 12) from hG_17.1.1 12) (Int32.not_le.mp c229))
        have f231 : iv 1 6 (ac_gi s17 12) := (iv_ltr b4_17 (show iv 0 6 (ac_gi s17 12) from hG_17.1.1 12) (Int32.not_le.mp c229))
        refine at_aload_n C 0 dX5_share_26 rfl ?_
        refine gf_X5_31 C dX5_share_27 ?_
        refine at_iload C 3 dX5_share_30 rfl ?_
        refine at_iconst C (-1 : Int32) dX5_share_32 (by decide) ?_
        refine at_iast C (c := 25) rfl (fun f => ac_ast_25 _ _ _ _ f) (iv_in (n := 6) f230 (by decide) (by decide)) dX5_share_33 ?_
        have hG232 := Gd.sa (c := 25) (i := (y4_17).toNatClampNeg) hG_17 rfl (iv_wk (iv_c (c := (-1)) (x := (-1 : Int32)) (by decide)) (by decide) (by decide) : iv (-1) 23 (-1 : Int32))
        refine at_iload_n C 1 dX5_share_34 rfl ?_
        refine at_iload C 3 dX5_share_35 rfl ?_
        refine at_Ni C (As := [.int y2_17, .int y4_17]) (st := []) (ct_X6_has (ac_sa s17 25 (upd (ac_ga s17 25) (y4_17).toNatClampNeg (-1 : Int32))) y2_17 y4_17) mb_X6_has ml_X5_52 rfl (by decide) rfl (Nat.le_of_ble_eq_true rfl) dX5_share_37 ?_
        rintro _ _ ⟨rfl, ⟨rfl, c233⟩ | ⟨rfl, c233⟩⟩
        · refine at_if_eq C 115 dX5_share_40 (by decide) (fun c235 => absurd c235 (iv_xeq (iv_c (c := 1) (x := (1 : Int32)) (by decide)) (iv_c (c := 0) (x := (0 : Int32)) (by decide)) (by decide))) (fun c235 => ?_)
          refine at_iload_n C 1 dX5_share_43 rfl ?_
          refine at_iconst C (1 : Int32) dX5_share_44 (by decide) ?_
          refine at_iload C 3 dX5_share_45 rfl ?_
          refine at_ishl C dX5_share_47 ?_
          refine at_iconst C (-1 : Int32) dX5_share_48 (by decide) ?_
          refine at_ixor C dX5_share_49 ?_
          refine at_iand C dX5_share_50 ?_
          refine at_istore C (lv' := [(5, .int (y2_17 &&& (((1 : Int32) <<< (y4_17 &&& 31)) ^^^ (-1 : Int32)))), (0, .ref (e_q E 5)), (2, .int y2_17), (3, .int y3_17), (4, .int y4_17)]) dX5_share_51 hn5 rfl ?_
          refine at_aload_n C 1 dX5_share_53 rfl ?_
          refine gf_X5_31 C dX5_share_54 ?_
          refine at_iload C 4 dX5_share_57 rfl ?_
          refine at_aload_n C 1 dX5_share_59 rfl ?_
          refine at_aload_n C 1 dX5_share_60 rfl ?_
          refine gf_X5_34 C dX5_share_61 ?_
          refine at_iload_n C 2 dX5_share_64 rfl ?_
          refine at_bipush C (64 : Int32) dX5_share_65 (by decide) ?_
          refine at_imul C dX5_share_67 ?_
          refine at_iload_n C 3 dX5_share_68 rfl ?_
          refine at_iadd C dX5_share_69 ?_
          refine at_iald C (c := 26) rfl (iv_in (n := 4096) (iv_add (iv_mul b2_17 (iv_wk (c := 0) (iv_c (c := 64) (x := (64 : Int32)) (by decide)) (by decide) (Int.le_refl _)) (by decide)) b3_17 (by decide) (by decide)) (by decide) (by decide)) dX5_share_70 ?_
          show AT E 71 [(5, .int (y2_17 &&& (((1 : Int32) <<< (y4_17 &&& 31)) ^^^ (-1 : Int32)))), (0, .ref (e_q E 5)), (2, .int y2_17), (3, .int y3_17), (4, .int y4_17)] [.int (ac_ga s17 26 (((y2_17 * (64 : Int32)) + y3_17)).toNatClampNeg), .ref (e_q E 5), .int y4_17, .ref (e_q E 25)] (ac_sa s17 25 (upd (ac_ga s17 25) (y4_17).toNatClampNeg (-1 : Int32)))
          refine at_iload C 4 dX5_share_71 rfl ?_
          refine at_iload C 0 dX5_share_73 rfl ?_
          refine at_iload_n C 3 dX5_share_75 rfl ?_
          refine at_Vi C (As := [.int (ac_ga s17 26 (((y2_17 * (64 : Int32)) + y3_17)).toNatClampNeg), .int y4_17, .int (y2_17 &&& (((1 : Int32) <<< (y4_17 &&& 31)) ^^^ (-1 : Int32))), .int y3_17]) (st := [.int y4_17, .ref (e_q E 25)]) (b := 5) (ci := 5) (ct_X5_firstToReach (ac_sa s17 25 (upd (ac_ga s17 25) (y4_17).toNatClampNeg (-1 : Int32))) (ac_ga s17 26 (((y2_17 * (64 : Int32)) + y3_17)).toNatClampNeg) y4_17 (y2_17 &&& (((1 : Int32) <<< (y4_17 &&& 31)) ^^^ (-1 : Int32))) y3_17 hG232.1 (show iv 0 63 (y2_17 &&& (((1 : Int32) <<< (y4_17 &&& 31)) ^^^ (-1 : Int32))) from (iv_andl b2_17)) (show iv 0 63 y3_17 from b3_17)) mb_X5_firstToReach ml_X5_56 rfl rfl rfl (by decide) rfl (Nat.le_of_ble_eq_true rfl) dX5_share_76 ?_
          rintro r236 _ ⟨rfl, f237⟩
          refine at_iast C (c := 25) rfl (fun f => ac_ast_25 _ _ _ _ f) (iv_in (n := 6) f230 (by decide) (by decide)) dX5_share_79 ?_
          have hG238 := Gd.sa (c := 25) (i := (y4_17).toNatClampNeg) hG232 rfl (show iv (-1) 23 r236 from f237)
          refine at_aload_n C 1 dX5_share_80 rfl ?_
          refine gf_X5_31 C dX5_share_81 ?_
          refine at_iload C 4 dX5_share_84 rfl ?_
          refine at_iald C (c := 25) rfl (iv_in (n := 6) f230 (by decide) (by decide)) dX5_share_86 ?_
          refine at_iconst C (-1 : Int32) dX5_share_87 (by decide) ?_
          refine at_icmp_ne C 95 dX5_share_88 (by decide) (fun c239 => ?_) (fun c239 => ?_)
          · have f240 : iv 0 23 (ac_ga (ac_sa (ac_sa s17 25 (upd (ac_ga s17 25) (y4_17).toNatClampNeg (-1 : Int32))) 25 (upd (ac_ga (ac_sa s17 25 (upd (ac_ga s17 25) (y4_17).toNatClampNeg (-1 : Int32))) 25) (y4_17).toNatClampNeg r236)) 25 (y4_17).toNatClampNeg) := (iv_nel (show iv (-1) 23 (ac_ga (ac_sa (ac_sa s17 25 (upd (ac_ga s17 25) (y4_17).toNatClampNeg (-1 : Int32))) 25 (upd (ac_ga (ac_sa s17 25 (upd (ac_ga s17 25) (y4_17).toNatClampNeg (-1 : Int32))) 25) (y4_17).toNatClampNeg r236)) 25 (y4_17).toNatClampNeg) from hG238.1.2 25 _) (by decide) c239)
            refine at_iload_n C 3 dX5_share_95 rfl ?_
            refine at_aload_n C 1 dX5_share_96 rfl ?_
            refine gf_X5_22 C dX5_share_97 ?_
            refine at_aload_n C 1 dX5_share_100 rfl ?_
            refine gf_X5_31 C dX5_share_101 ?_
            refine at_iload C 4 dX5_share_104 rfl ?_
            refine at_iald C (c := 25) rfl (iv_in (n := 6) f230 (by decide) (by decide)) dX5_share_106 ?_
            refine at_iald C (c := 22) rfl (iv_in (n := 24) f240 (by decide) (by decide)) dX5_share_107 ?_
            show AT E 108 [(5, .int (y2_17 &&& (((1 : Int32) <<< (y4_17 &&& 31)) ^^^ (-1 : Int32)))), (0, .ref (e_q E 5)), (2, .int y2_17), (3, .int y3_17), (4, .int y4_17)] [.int (ac_ga s17 22 ((ac_ga (ac_sa (ac_sa s17 25 (upd (ac_ga s17 25) (y4_17).toNatClampNeg (-1 : Int32))) 25 (upd (ac_ga (ac_sa s17 25 (upd (ac_ga s17 25) (y4_17).toNatClampNeg (-1 : Int32))) 25) (y4_17).toNatClampNeg r236)) 25 (y4_17).toNatClampNeg)).toNatClampNeg), .int y3_17] (ac_sa (ac_sa s17 25 (upd (ac_ga s17 25) (y4_17).toNatClampNeg (-1 : Int32))) 25 (upd (ac_ga (ac_sa s17 25 (upd (ac_ga s17 25) (y4_17).toNatClampNeg (-1 : Int32))) 25) (y4_17).toNatClampNeg r236))
            refine at_iconst C (-1 : Int32) dX5_share_108 (by decide) ?_
            refine at_ixor C dX5_share_109 ?_
            refine at_iand C dX5_share_110 ?_
            refine at_istore_n C (lv' := [(3, .int (y3_17 &&& ((ac_ga s17 22 ((ac_ga (ac_sa (ac_sa s17 25 (upd (ac_ga s17 25) (y4_17).toNatClampNeg (-1 : Int32))) 25 (upd (ac_ga (ac_sa s17 25 (upd (ac_ga s17 25) (y4_17).toNatClampNeg (-1 : Int32))) 25) (y4_17).toNatClampNeg r236)) 25 (y4_17).toNatClampNeg)).toNatClampNeg) ^^^ (-1 : Int32)))), (5, .int (y2_17 &&& (((1 : Int32) <<< (y4_17 &&& 31)) ^^^ (-1 : Int32)))), (0, .ref (e_q E 5)), (2, .int y2_17), (4, .int y4_17)]) dX5_share_111 hn3 rfl ?_
            refine at_iload C 1 dX5_share_112 rfl ?_
            refine at_istore_n C (lv' := [(2, .int (y2_17 &&& (((1 : Int32) <<< (y4_17 &&& 31)) ^^^ (-1 : Int32)))), (3, .int (y3_17 &&& ((ac_ga s17 22 ((ac_ga (ac_sa (ac_sa s17 25 (upd (ac_ga s17 25) (y4_17).toNatClampNeg (-1 : Int32))) 25 (upd (ac_ga (ac_sa s17 25 (upd (ac_ga s17 25) (y4_17).toNatClampNeg (-1 : Int32))) 25) (y4_17).toNatClampNeg r236)) 25 (y4_17).toNatClampNeg)).toNatClampNeg) ^^^ (-1 : Int32)))), (5, .int (y2_17 &&& (((1 : Int32) <<< (y4_17 &&& 31)) ^^^ (-1 : Int32)))), (0, .ref (e_q E 5)), (4, .int y4_17)]) dX5_share_114 hn2 rfl ?_
            refine at_iinc C (v := (y4_17 + (1 : Int32))) (lv' := [(4, .int (y4_17 + (1 : Int32))), (2, .int (y2_17 &&& (((1 : Int32) <<< (y4_17 &&& 31)) ^^^ (-1 : Int32)))), (3, .int (y3_17 &&& ((ac_ga s17 22 ((ac_ga (ac_sa (ac_sa s17 25 (upd (ac_ga s17 25) (y4_17).toNatClampNeg (-1 : Int32))) 25 (upd (ac_ga (ac_sa s17 25 (upd (ac_ga s17 25) (y4_17).toNatClampNeg (-1 : Int32))) 25) (y4_17).toNatClampNeg r236)) 25 (y4_17).toNatClampNeg)).toNatClampNeg) ^^^ (-1 : Int32)))), (5, .int (y2_17 &&& (((1 : Int32) <<< (y4_17 &&& 31)) ^^^ (-1 : Int32)))), (0, .ref (e_q E 5))]) 4 dX5_share_115 rfl rfl hn4 rfl ?_
            refine at_goto C 17 dX5_share_118 (by decide) ?_
            exact at_sub [4, 1, 2, 0] rfl (ih17 (y2_17 &&& (((1 : Int32) <<< (y4_17 &&& 31)) ^^^ (-1 : Int32))) (y3_17 &&& ((ac_ga s17 22 ((ac_ga (ac_sa (ac_sa s17 25 (upd (ac_ga s17 25) (y4_17).toNatClampNeg (-1 : Int32))) 25 (upd (ac_ga (ac_sa s17 25 (upd (ac_ga s17 25) (y4_17).toNatClampNeg (-1 : Int32))) 25) (y4_17).toNatClampNeg r236)) 25 (y4_17).toNatClampNeg)).toNatClampNeg) ^^^ (-1 : Int32))) (y4_17 + (1 : Int32)) (ac_sa (ac_sa s17 25 (upd (ac_ga s17 25) (y4_17).toNatClampNeg (-1 : Int32))) 25 (upd (ac_ga (ac_sa s17 25 (upd (ac_ga s17 25) (y4_17).toNatClampNeg (-1 : Int32))) 25) (y4_17).toNatClampNeg r236)) (mz_up hm17 (ac_ti1 f230 (iv_c (c := 1) (x := (1 : Int32)) (by decide)) (by decide) (by decide) (by decide)) (by decide) (iv_wk (iv_add f230 (iv_c (c := 1) (x := (1 : Int32)) (by decide)) (by decide) (by decide)) (by decide) (by decide) : iv 0 6 (y4_17 + (1 : Int32))).2) (show iv 0 63 (y2_17 &&& (((1 : Int32) <<< (y4_17 &&& 31)) ^^^ (-1 : Int32))) from (iv_andl b2_17)) (show iv 0 63 (y3_17 &&& ((ac_ga s17 22 ((ac_ga (ac_sa (ac_sa s17 25 (upd (ac_ga s17 25) (y4_17).toNatClampNeg (-1 : Int32))) 25 (upd (ac_ga (ac_sa s17 25 (upd (ac_ga s17 25) (y4_17).toNatClampNeg (-1 : Int32))) 25) (y4_17).toNatClampNeg r236)) 25 (y4_17).toNatClampNeg)).toNatClampNeg) ^^^ (-1 : Int32))) from (iv_andl b3_17)) (iv_wk (iv_add f230 (iv_c (c := 1) (x := (1 : Int32)) (by decide)) (by decide) (by decide)) (by decide) (by decide) : iv 0 6 (y4_17 + (1 : Int32))) hG238)
          · have f241 : iv (-1) (-1) (ac_ga (ac_sa (ac_sa s17 25 (upd (ac_ga s17 25) (y4_17).toNatClampNeg (-1 : Int32))) 25 (upd (ac_ga (ac_sa s17 25 (upd (ac_ga s17 25) (y4_17).toNatClampNeg (-1 : Int32))) 25) (y4_17).toNatClampNeg r236)) 25 (y4_17).toNatClampNeg) := (iv_eql (iv_c (c := (-1)) (x := (-1 : Int32)) (by decide)) c239)
            refine at_iload_n C 3 dX5_share_91 rfl ?_
            refine at_goto C 111 dX5_share_92 (by decide) ?_
            refine at_istore_n C (lv' := [(3, .int y3_17), (5, .int (y2_17 &&& (((1 : Int32) <<< (y4_17 &&& 31)) ^^^ (-1 : Int32)))), (0, .ref (e_q E 5)), (2, .int y2_17), (4, .int y4_17)]) dX5_share_111 hn3 rfl ?_
            refine at_iload C 1 dX5_share_112 rfl ?_
            refine at_istore_n C (lv' := [(2, .int (y2_17 &&& (((1 : Int32) <<< (y4_17 &&& 31)) ^^^ (-1 : Int32)))), (3, .int y3_17), (5, .int (y2_17 &&& (((1 : Int32) <<< (y4_17 &&& 31)) ^^^ (-1 : Int32)))), (0, .ref (e_q E 5)), (4, .int y4_17)]) dX5_share_114 hn2 rfl ?_
            refine at_iinc C (v := (y4_17 + (1 : Int32))) (lv' := [(4, .int (y4_17 + (1 : Int32))), (2, .int (y2_17 &&& (((1 : Int32) <<< (y4_17 &&& 31)) ^^^ (-1 : Int32)))), (3, .int y3_17), (5, .int (y2_17 &&& (((1 : Int32) <<< (y4_17 &&& 31)) ^^^ (-1 : Int32)))), (0, .ref (e_q E 5))]) 4 dX5_share_115 rfl rfl hn4 rfl ?_
            refine at_goto C 17 dX5_share_118 (by decide) ?_
            exact at_sub [4, 1, 2, 0] rfl (ih17 (y2_17 &&& (((1 : Int32) <<< (y4_17 &&& 31)) ^^^ (-1 : Int32))) y3_17 (y4_17 + (1 : Int32)) (ac_sa (ac_sa s17 25 (upd (ac_ga s17 25) (y4_17).toNatClampNeg (-1 : Int32))) 25 (upd (ac_ga (ac_sa s17 25 (upd (ac_ga s17 25) (y4_17).toNatClampNeg (-1 : Int32))) 25) (y4_17).toNatClampNeg r236)) (mz_up hm17 (ac_ti1 f230 (iv_c (c := 1) (x := (1 : Int32)) (by decide)) (by decide) (by decide) (by decide)) (by decide) (iv_wk (iv_add f230 (iv_c (c := 1) (x := (1 : Int32)) (by decide)) (by decide) (by decide)) (by decide) (by decide) : iv 0 6 (y4_17 + (1 : Int32))).2) (show iv 0 63 (y2_17 &&& (((1 : Int32) <<< (y4_17 &&& 31)) ^^^ (-1 : Int32))) from (iv_andl b2_17)) (show iv 0 63 y3_17 from b3_17) (iv_wk (iv_add f230 (iv_c (c := 1) (x := (1 : Int32)) (by decide)) (by decide) (by decide)) (by decide) (by decide) : iv 0 6 (y4_17 + (1 : Int32))) hG238)
        · refine at_if_eq C 115 dX5_share_40 (by decide) (fun c242 => ?_) (fun c242 => absurd (iv_xne (iv_c (c := 0) (x := (0 : Int32)) (by decide)) (iv_c (c := 0) (x := (0 : Int32)) (by decide))) c242)
          refine at_iinc C (v := (y4_17 + (1 : Int32))) (lv' := [(4, .int (y4_17 + (1 : Int32))), (0, .ref (e_q E 5)), (2, .int y2_17), (3, .int y3_17)]) 3 dX5_share_115 rfl rfl hn4 rfl ?_
          refine at_goto C 17 dX5_share_118 (by decide) ?_
          exact at_sub [1, 2, 3, 0] rfl (ih17 y2_17 y3_17 (y4_17 + (1 : Int32)) (ac_sa s17 25 (upd (ac_ga s17 25) (y4_17).toNatClampNeg (-1 : Int32))) (mz_up hm17 (ac_ti1 f230 (iv_c (c := 1) (x := (1 : Int32)) (by decide)) (by decide) (by decide) (by decide)) (by decide) (iv_wk (iv_add f230 (iv_c (c := 1) (x := (1 : Int32)) (by decide)) (by decide) (by decide)) (by decide) (by decide) : iv 0 6 (y4_17 + (1 : Int32))).2) (show iv 0 63 y2_17 from b2_17) (show iv 0 63 y3_17 from b3_17) (iv_wk (iv_add f230 (iv_c (c := 1) (x := (1 : Int32)) (by decide)) (by decide) (by decide)) (by decide) (by decide) : iv 0 6 (y4_17 + (1 : Int32))) hG232)
  refine at_aload_n C 0 dX5_share_0 rfl ?_
  refine at_Vv C (As := []) (st := []) (b := 5) (ci := 5) (ct_X5_weigh σ hI) mb_X5_weigh ml_X5_49 rfl rfl rfl (by decide) rfl (Nat.le_of_ble_eq_true rfl) dX5_share_1 ?_
  rintro u243 hg244
  have hG245 := hG0.tr hg244
  refine at_iload_n C 1 dX5_share_4 rfl ?_
  refine at_aload_n C 0 dX5_share_5 rfl ?_
  refine at_Vi C (As := []) (st := [.int x1]) (b := 5) (ci := 5) (ct_X5_allHouses u243) mb_X5_allHouses ml_X5_41 rfl rfl rfl (by decide) rfl (Nat.le_of_ble_eq_true rfl) dX5_share_6 ?_
  rintro _ _ ⟨rfl, rfl⟩
  refine at_iand C dX5_share_9 ?_
  refine at_istore_n C (lv' := [(2, .int (x1 &&& (((1 : Int32) <<< ((ac_gi u243 12) &&& 31)) - (1 : Int32)))), (0, .ref (e_q E 5)), (1, .int x1)]) dX5_share_10 hn2 rfl ?_
  refine at_bipush C (63 : Int32) dX5_share_11 (by decide) ?_
  refine at_istore_n C (lv' := [(3, .int (63 : Int32)), (2, .int (x1 &&& (((1 : Int32) <<< ((ac_gi u243 12) &&& 31)) - (1 : Int32)))), (0, .ref (e_q E 5)), (1, .int x1)]) dX5_share_13 hn3 rfl ?_
  refine at_iconst C (0 : Int32) dX5_share_14 (by decide) ?_
  refine at_istore C (lv' := [(4, .int (0 : Int32)), (3, .int (63 : Int32)), (2, .int (x1 &&& (((1 : Int32) <<< ((ac_gi u243 12) &&& 31)) - (1 : Int32)))), (0, .ref (e_q E 5)), (1, .int x1)]) dX5_share_15 hn4 rfl ?_
  exact at_sub [3, 2, 1, 0] rfl (K17 _ (x1 &&& (((1 : Int32) <<< ((ac_gi u243 12) &&& 31)) - (1 : Int32))) (63 : Int32) (0 : Int32) u243 (Nat.lt_succ_self _) (show iv 0 63 (x1 &&& (((1 : Int32) <<< ((ac_gi u243 12) &&& 31)) - (1 : Int32))) from (iv_andr (iv_sub (iv_shl1 (a := 0) (b := 6) (show iv 0 6 (ac_gi u243 12) from hg244.1.1 12) (by decide)) (iv_c (c := 1) (x := (1 : Int32)) (by decide)) (by decide) (by decide)))) (iv_wk (iv_c (c := 63) (x := (63 : Int32)) (by decide)) (by decide) (by decide) : iv 0 63 (63 : Int32)) (iv_wk (iv_c (c := 0) (x := (0 : Int32)) (by decide)) (by decide) (by decide) : iv 0 6 (0 : Int32)) hG245)
set_option maxHeartbeats 4000000 in
set_option maxRecDepth 100000 in
theorem ct_X5_takenBy (σ : SS) (x1 : Int32) (hI : Inv σ) : ConI yX5_takenBy cX5_takenBy 4 (some .int) 4 (some 5) [.int x1] σ (fun r σ' => Gd σ σ' ∧ iv (-2147483648) 2147483647 r) := by
  refine conI_of (by decide) (fun q => Nat.le_of_ble_eq_true rfl) (fun E C en hR => ?_)
  have hn2 : 2 < e_n E := by rw [en]; decide
  have hn3 : 3 < e_n E := by rw [en]; decide
  have hG0 : Gd σ σ := Gd.rf hI
  refine at_aload_n C 0 dX5_takenBy_0 rfl ?_
  refine at_Vi C (As := []) (st := []) (b := 5) (ci := 5) (ct_X5_allHouses σ) mb_X5_allHouses ml_X5_41 rfl rfl rfl (by decide) rfl (Nat.le_of_ble_eq_true rfl) dX5_takenBy_1 ?_
  rintro _ _ ⟨rfl, rfl⟩
  refine at_istore_n C (lv' := [(2, .int (((1 : Int32) <<< ((ac_gi σ 12) &&& 31)) - (1 : Int32))), (0, .ref (e_q E 5)), (1, .int x1)]) dX5_takenBy_4 hn2 rfl ?_
  refine at_aload_n C 1 dX5_takenBy_5 rfl ?_
  refine at_iload_n C 0 dX5_takenBy_6 rfl ?_
  refine at_Vv C (As := [.int (((1 : Int32) <<< ((ac_gi σ 12) &&& 31)) - (1 : Int32))]) (st := []) (b := 5) (ci := 5) (ct_X5_share σ (((1 : Int32) <<< ((ac_gi σ 12) &&& 31)) - (1 : Int32)) hI) mb_X5_share ml_X5_60 rfl rfl rfl (by decide) rfl (Nat.le_of_ble_eq_true rfl) dX5_takenBy_7 ?_
  rintro u122 hg123
  have hG124 := hG0.tr hg123
  refine at_aload_n C 1 dX5_takenBy_10 rfl ?_
  refine at_iload_n C 0 dX5_takenBy_11 rfl ?_
  refine at_Vi C (As := [.int (((1 : Int32) <<< ((ac_gi σ 12) &&& 31)) - (1 : Int32))]) (st := []) (b := 5) (ci := 5) (ct_X5_greatest u122 (((1 : Int32) <<< ((ac_gi σ 12) &&& 31)) - (1 : Int32)) hg123.1) mb_X5_greatest ml_X5_64 rfl rfl rfl (by decide) rfl (Nat.le_of_ble_eq_true rfl) dX5_takenBy_12 ?_
  rintro r125 u127 ⟨hg128, f126⟩
  have hG129 := hG124.tr hg128
  refine at_aload_n C 1 dX5_takenBy_15 rfl ?_
  refine at_iload_n C 2 dX5_takenBy_16 rfl ?_
  refine at_Vi C (As := [.int x1]) (st := [.int r125]) (b := 5) (ci := 5) (ct_X5_winOf u127 x1 hg128.1) mb_X5_winOf ml_X5_68 rfl rfl rfl (by decide) rfl (Nat.le_of_ble_eq_true rfl) dX5_takenBy_17 ?_
  rintro r130 _ ⟨rfl, f131⟩
  refine at_isub C dX5_takenBy_20 ?_
  refine at_istore_n C (lv' := [(3, .int (r125 - r130)), (2, .int (((1 : Int32) <<< ((ac_gi σ 12) &&& 31)) - (1 : Int32))), (0, .ref (e_q E 5)), (1, .int x1)]) dX5_takenBy_21 hn3 rfl ?_
  refine at_aload_n C 2 dX5_takenBy_22 rfl ?_
  refine at_iload_n C 1 dX5_takenBy_23 rfl ?_
  refine at_iconst C (1 : Int32) dX5_takenBy_24 (by decide) ?_
  refine at_iload_n C 3 dX5_takenBy_25 rfl ?_
  refine at_ishl C dX5_takenBy_26 ?_
  refine at_iconst C (-1 : Int32) dX5_takenBy_27 (by decide) ?_
  refine at_ixor C dX5_takenBy_28 ?_
  refine at_iand C dX5_takenBy_29 ?_
  refine at_Vi C (As := [.int ((((1 : Int32) <<< ((ac_gi σ 12) &&& 31)) - (1 : Int32)) &&& (((1 : Int32) <<< (x1 &&& 31)) ^^^ (-1 : Int32)))]) (st := []) (b := 5) (ci := 5) (ct_X5_greatest u127 ((((1 : Int32) <<< ((ac_gi σ 12) &&& 31)) - (1 : Int32)) &&& (((1 : Int32) <<< (x1 &&& 31)) ^^^ (-1 : Int32))) hg128.1) mb_X5_greatest ml_X5_64 rfl rfl rfl (by decide) rfl (Nat.le_of_ble_eq_true rfl) dX5_takenBy_30 ?_
  rintro r132 u134 ⟨hg135, f133⟩
  have hG136 := hG129.tr hg135
  refine at_iload_n C 0 dX5_takenBy_33 rfl ?_
  refine at_isub C dX5_takenBy_34 ?_
  exact hR _ _ _ _ dX5_takenBy_35 ⟨hG136, (show iv (-2147483648) 2147483647 (r132 - (r125 - r130)) from (iv_any (r132 - (r125 - r130))))⟩
set_option maxHeartbeats 4000000 in
set_option maxRecDepth 100000 in
theorem ct_X5_wouldLeave (σ : SS) (x1 : Int32) (hI : Inv σ) : ConI yX5_wouldLeave cX5_wouldLeave 4 (some .boolean) 4 (some 5) [.int x1] σ (fun r σ' => Gd σ σ' ∧ (r = 0 ∨ r = 1)) := by
  refine conZ_of (by decide) (fun q => Nat.le_of_ble_eq_true rfl) (fun r u h => h.2) (fun E C en hR => ?_)
  have hn2 : 2 < e_n E := by rw [en]; decide
  have hn3 : 3 < e_n E := by rw [en]; decide
  have hG0 : Gd σ σ := Gd.rf hI
  have K4 : ∀ (n4 : Nat) (y2_4 : Int32) (y3_4 : Int32), (6 - (y3_4).toInt).toNat < n4 → iv (-2147483648) 2147483647 y2_4 → iv 0 6 y3_4 → AT E 4 [(0, .ref (e_q E 5)), (1, .int x1), (2, .int y2_4), (3, .int y3_4)] [] σ := by
    intro n4
    induction n4 with
    | zero => intro y2_4 y3_4 hm; exact absurd hm (Nat.not_lt_zero _)
    | succ n4 ih4 =>
      intro y2_4 y3_4 hm4 b2_4 b3_4
      refine at_iload_n C 3 dX5_wouldLeave_4 rfl ?_
      refine at_aload_n C 0 dX5_wouldLeave_5 rfl ?_
      refine gf_X5_9 C dX5_wouldLeave_6 ?_
      refine at_icmp_ge C 68 dX5_wouldLeave_9 (by decide) (fun c241 => ?_) (fun c241 => ?_)
      · refine at_aload_n C 0 dX5_wouldLeave_68 rfl ?_
        refine at_iload_n C 1 dX5_wouldLeave_69 rfl ?_
        refine at_Vi C (As := [.int x1]) (st := []) (b := 5) (ci := 5) (ct_X5_greatest σ x1 hI) mb_X5_greatest ml_X5_64 rfl rfl rfl (by decide) rfl (Nat.le_of_ble_eq_true rfl) dX5_wouldLeave_70 ?_
        rintro r242 u244 ⟨hg245, f243⟩
        have hG246 := hG0.tr hg245
        refine at_iload_n C 2 dX5_wouldLeave_73 rfl ?_
        refine at_icmp_le C 81 dX5_wouldLeave_74 (by decide) (fun c247 => ?_) (fun c247 => ?_)
        · refine at_iconst C (0 : Int32) dX5_wouldLeave_81 (by decide) ?_
          exact hR _ _ _ _ dX5_wouldLeave_82 ⟨hG246, Or.inl rfl⟩
        · have f248 : iv (-2147483648) 2147483646 y2_4 := (iv_ltl b2_4 f243 (Int32.not_le.mp c247))
          have f249 : iv (-2147483647) 2147483647 r242 := (iv_ltr b2_4 f243 (Int32.not_le.mp c247))
          refine at_iconst C (1 : Int32) dX5_wouldLeave_77 (by decide) ?_
          refine at_goto C 82 dX5_wouldLeave_78 (by decide) ?_
          exact hR _ _ _ _ dX5_wouldLeave_82 ⟨hG246, Or.inr rfl⟩
      · have f250 : iv 0 5 y3_4 := (iv_ltl b3_4 (show iv 0 6 (ac_gi σ 12) from hI.1 12) (Int32.not_le.mp c241))
        have f251 : iv 1 6 (ac_gi σ 12) := (iv_ltr b3_4 (show iv 0 6 (ac_gi σ 12) from hI.1 12) (Int32.not_le.mp c241))
        refine at_aload_n C 0 dX5_wouldLeave_12 rfl ?_
        refine gf_X5_31 C dX5_wouldLeave_13 ?_
        refine at_iload_n C 3 dX5_wouldLeave_16 rfl ?_
        refine at_iald C (c := 25) rfl (iv_in (n := 6) f250 (by decide) (by decide)) dX5_wouldLeave_17 ?_
        refine at_iconst C (-1 : Int32) dX5_wouldLeave_18 (by decide) ?_
        refine at_icmp_eq C 62 dX5_wouldLeave_19 (by decide) (fun c252 => ?_) (fun c252 => ?_)
        · have f253 : iv (-1) (-1) (ac_ga σ 25 (y3_4).toNatClampNeg) := (iv_eql (iv_c (c := (-1)) (x := (-1 : Int32)) (by decide)) c252)
          refine at_iinc C (v := (y3_4 + (1 : Int32))) (lv' := [(3, .int (y3_4 + (1 : Int32))), (0, .ref (e_q E 5)), (1, .int x1), (2, .int y2_4)]) 3 dX5_wouldLeave_62 rfl rfl hn3 rfl ?_
          refine at_goto C 4 dX5_wouldLeave_65 (by decide) ?_
          exact at_sub [1, 2, 3, 0] rfl (ih4 y2_4 (y3_4 + (1 : Int32)) (mz_up hm4 (ac_ti1 f250 (iv_c (c := 1) (x := (1 : Int32)) (by decide)) (by decide) (by decide) (by decide)) (by decide) (iv_wk (iv_add f250 (iv_c (c := 1) (x := (1 : Int32)) (by decide)) (by decide) (by decide)) (by decide) (by decide) : iv 0 6 (y3_4 + (1 : Int32))).2) (show iv (-2147483648) 2147483647 y2_4 from b2_4) (iv_wk (iv_add f250 (iv_c (c := 1) (x := (1 : Int32)) (by decide)) (by decide) (by decide)) (by decide) (by decide) : iv 0 6 (y3_4 + (1 : Int32))))
        · have f254 : iv 0 23 (ac_ga σ 25 (y3_4).toNatClampNeg) := (iv_nel (show iv (-1) 23 (ac_ga σ 25 (y3_4).toNatClampNeg) from hI.2 25 _) (by decide) c252)
          refine at_iload_n C 2 dX5_wouldLeave_22 rfl ?_
          refine at_aload_n C 0 dX5_wouldLeave_23 rfl ?_
          refine gf_X5_28 C dX5_wouldLeave_24 ?_
          refine at_iload_n C 3 dX5_wouldLeave_27 rfl ?_
          refine at_iald C (c := 24) rfl (iv_in (n := 6) f250 (by decide) (by decide)) dX5_wouldLeave_28 ?_
          refine at_iadd C dX5_wouldLeave_29 ?_
          refine at_istore_n C (lv' := [(2, .int (y2_4 + (ac_ga σ 24 (y3_4).toNatClampNeg))), (0, .ref (e_q E 5)), (1, .int x1), (3, .int y3_4)]) dX5_wouldLeave_30 hn2 rfl ?_
          refine at_iload_n C 0 dX5_wouldLeave_31 rfl ?_
          refine at_iload_n C 2 dX5_wouldLeave_32 rfl ?_
          refine at_iload_n C 3 dX5_wouldLeave_33 rfl ?_
          refine at_Ni C (As := [.int x1, .int y3_4]) (st := [.int (y2_4 + (ac_ga σ 24 (y3_4).toNatClampNeg))]) (ct_X6_has σ x1 y3_4) mb_X6_has ml_X5_52 rfl (by decide) rfl (Nat.le_of_ble_eq_true rfl) dX5_wouldLeave_34 ?_
          rintro _ _ ⟨rfl, ⟨rfl, c255⟩ | ⟨rfl, c255⟩⟩
          · refine at_if_eq C 59 dX5_wouldLeave_37 (by decide) (fun c257 => absurd c257 (iv_xeq (iv_c (c := 1) (x := (1 : Int32)) (by decide)) (iv_c (c := 0) (x := (0 : Int32)) (by decide)) (by decide))) (fun c257 => ?_)
            refine at_iconst C (0 : Int32) dX5_wouldLeave_40 (by decide) ?_
            refine at_aload_n C 1 dX5_wouldLeave_41 rfl ?_
            refine at_iload_n C 3 dX5_wouldLeave_42 rfl ?_
            refine at_Vi C (As := [.int y3_4]) (st := [.int (0 : Int32), .int (y2_4 + (ac_ga σ 24 (y3_4).toNatClampNeg))]) (b := 5) (ci := 5) (ct_X5_winOf σ y3_4 hI) mb_X5_winOf ml_X5_68 rfl rfl rfl (by decide) rfl (Nat.le_of_ble_eq_true rfl) dX5_wouldLeave_43 ?_
            rintro r258 _ ⟨rfl, f259⟩
            refine at_aload_n C 1 dX5_wouldLeave_46 rfl ?_
            refine gf_X5_28 C dX5_wouldLeave_47 ?_
            refine at_iload_n C 3 dX5_wouldLeave_50 rfl ?_
            refine at_iald C (c := 24) rfl (iv_in (n := 6) f250 (by decide) (by decide)) dX5_wouldLeave_51 ?_
            refine at_isub C dX5_wouldLeave_52 ?_
            refine at_mmax C ml_X5_71 (by decide) (Nat.le_of_ble_eq_true rfl) dX5_wouldLeave_53 ?_
            refine at_goto C 60 dX5_wouldLeave_56 (by decide) ?_
            refine at_iadd C dX5_wouldLeave_60 ?_
            refine at_istore_n C (lv' := [(2, .int ((y2_4 + (ac_ga σ 24 (y3_4).toNatClampNeg)) + (ac_max (0 : Int32) (r258 - (ac_ga σ 24 (y3_4).toNatClampNeg))))), (0, .ref (e_q E 5)), (1, .int x1), (3, .int y3_4)]) dX5_wouldLeave_61 hn2 rfl ?_
            refine at_iinc C (v := (y3_4 + (1 : Int32))) (lv' := [(3, .int (y3_4 + (1 : Int32))), (2, .int ((y2_4 + (ac_ga σ 24 (y3_4).toNatClampNeg)) + (ac_max (0 : Int32) (r258 - (ac_ga σ 24 (y3_4).toNatClampNeg))))), (0, .ref (e_q E 5)), (1, .int x1)]) 3 dX5_wouldLeave_62 rfl rfl hn3 rfl ?_
            refine at_goto C 4 dX5_wouldLeave_65 (by decide) ?_
            exact at_sub [2, 3, 1, 0] rfl (ih4 ((y2_4 + (ac_ga σ 24 (y3_4).toNatClampNeg)) + (ac_max (0 : Int32) (r258 - (ac_ga σ 24 (y3_4).toNatClampNeg)))) (y3_4 + (1 : Int32)) (mz_up hm4 (ac_ti1 f250 (iv_c (c := 1) (x := (1 : Int32)) (by decide)) (by decide) (by decide) (by decide)) (by decide) (iv_wk (iv_add f250 (iv_c (c := 1) (x := (1 : Int32)) (by decide)) (by decide) (by decide)) (by decide) (by decide) : iv 0 6 (y3_4 + (1 : Int32))).2) (show iv (-2147483648) 2147483647 ((y2_4 + (ac_ga σ 24 (y3_4).toNatClampNeg)) + (ac_max (0 : Int32) (r258 - (ac_ga σ 24 (y3_4).toNatClampNeg)))) from (iv_any ((y2_4 + (ac_ga σ 24 (y3_4).toNatClampNeg)) + (ac_max (0 : Int32) (r258 - (ac_ga σ 24 (y3_4).toNatClampNeg)))))) (iv_wk (iv_add f250 (iv_c (c := 1) (x := (1 : Int32)) (by decide)) (by decide) (by decide)) (by decide) (by decide) : iv 0 6 (y3_4 + (1 : Int32))))
          · refine at_if_eq C 59 dX5_wouldLeave_37 (by decide) (fun c260 => ?_) (fun c260 => absurd (iv_xne (iv_c (c := 0) (x := (0 : Int32)) (by decide)) (iv_c (c := 0) (x := (0 : Int32)) (by decide))) c260)
            refine at_iconst C (0 : Int32) dX5_wouldLeave_59 (by decide) ?_
            refine at_iadd C dX5_wouldLeave_60 ?_
            refine at_istore_n C (lv' := [(2, .int ((y2_4 + (ac_ga σ 24 (y3_4).toNatClampNeg)) + (0 : Int32))), (0, .ref (e_q E 5)), (1, .int x1), (3, .int y3_4)]) dX5_wouldLeave_61 hn2 rfl ?_
            refine at_iinc C (v := (y3_4 + (1 : Int32))) (lv' := [(3, .int (y3_4 + (1 : Int32))), (2, .int ((y2_4 + (ac_ga σ 24 (y3_4).toNatClampNeg)) + (0 : Int32))), (0, .ref (e_q E 5)), (1, .int x1)]) 3 dX5_wouldLeave_62 rfl rfl hn3 rfl ?_
            refine at_goto C 4 dX5_wouldLeave_65 (by decide) ?_
            exact at_sub [2, 3, 1, 0] rfl (ih4 ((y2_4 + (ac_ga σ 24 (y3_4).toNatClampNeg)) + (0 : Int32)) (y3_4 + (1 : Int32)) (mz_up hm4 (ac_ti1 f250 (iv_c (c := 1) (x := (1 : Int32)) (by decide)) (by decide) (by decide) (by decide)) (by decide) (iv_wk (iv_add f250 (iv_c (c := 1) (x := (1 : Int32)) (by decide)) (by decide) (by decide)) (by decide) (by decide) : iv 0 6 (y3_4 + (1 : Int32))).2) (show iv (-2147483648) 2147483647 ((y2_4 + (ac_ga σ 24 (y3_4).toNatClampNeg)) + (0 : Int32)) from (iv_add (iv_any (y2_4 + (ac_ga σ 24 (y3_4).toNatClampNeg))) (iv_c (c := 0) (x := (0 : Int32)) (by decide)) (by decide) (by decide))) (iv_wk (iv_add f250 (iv_c (c := 1) (x := (1 : Int32)) (by decide)) (by decide) (by decide)) (by decide) (by decide) : iv 0 6 (y3_4 + (1 : Int32))))
  refine at_iconst C (0 : Int32) dX5_wouldLeave_0 (by decide) ?_
  refine at_istore_n C (lv' := [(2, .int (0 : Int32)), (0, .ref (e_q E 5)), (1, .int x1)]) dX5_wouldLeave_1 hn2 rfl ?_
  refine at_iconst C (0 : Int32) dX5_wouldLeave_2 (by decide) ?_
  refine at_istore_n C (lv' := [(3, .int (0 : Int32)), (2, .int (0 : Int32)), (0, .ref (e_q E 5)), (1, .int x1)]) dX5_wouldLeave_3 hn3 rfl ?_
  exact at_sub [2, 3, 1, 0] rfl (K4 _ (0 : Int32) (0 : Int32) (Nat.lt_succ_self _) (iv_wk (iv_c (c := 0) (x := (0 : Int32)) (by decide)) (by decide) (by decide) : iv (-2147483648) 2147483647 (0 : Int32)) (iv_wk (iv_c (c := 0) (x := (0 : Int32)) (by decide)) (by decide) (by decide) : iv 0 6 (0 : Int32)))
set_option maxHeartbeats 4000000 in
set_option maxRecDepth 100000 in
theorem ct_X5_firstToLeave (σ : SS) (hI : Inv σ) : ConI yX5_firstToLeave cX5_firstToLeave 2 (some .int) 5 (some 5) [] σ (fun r σ' => Gd σ σ' ∧ iv (-2147483648) 2147483647 r) := by
  refine conI_of (by decide) (fun q => Nat.le_of_ble_eq_true rfl) (fun E C en hR => ?_)
  have hn1 : 1 < e_n E := by rw [en]; decide
  have hG0 : Gd σ σ := Gd.rf hI
  have K10 : ∀ (n10 : Nat) (y1_10 : Int32) (s10 : SS), (64 - (y1_10).toInt).toNat < n10 → iv 1 64 y1_10 → Gd σ s10 → AT E 10 [(0, .ref (e_q E 5)), (1, .int y1_10)] [] s10 := by
    intro n10
    induction n10 with
    | zero => intro y1_10 s10 hm; exact absurd hm (Nat.not_lt_zero _)
    | succ n10 ih10 =>
      intro y1_10 s10 hm10 b1_10 hG_10
      refine at_iload_n C 1 dX5_firstToLeave_10 rfl ?_
      refine at_aload_n C 0 dX5_firstToLeave_11 rfl ?_
      refine at_Vi C (As := []) (st := [.int y1_10]) (b := 5) (ci := 5) (ct_X5_allHouses s10) mb_X5_allHouses ml_X5_41 rfl rfl rfl (by decide) rfl (Nat.le_of_ble_eq_true rfl) dX5_firstToLeave_12 ?_
      rintro _ _ ⟨rfl, rfl⟩
      refine at_icmp_gt C 34 dX5_firstToLeave_15 (by decide) (fun c453 => ?_) (fun c453 => ?_)
      · refine at_iconst C (-1 : Int32) dX5_firstToLeave_34 (by decide) ?_
        exact hR _ _ _ _ dX5_firstToLeave_35 ⟨hG_10, (iv_wk (iv_c (c := (-1)) (x := (-1 : Int32)) (by decide)) (by decide) (by decide) : iv (-2147483648) 2147483647 (-1 : Int32))⟩
      · have f454 : iv 1 63 y1_10 := (iv_lel b1_10 (iv_sub (iv_shl1 (a := 0) (b := 6) (show iv 0 6 (ac_gi s10 12) from hG_10.1.1 12) (by decide)) (iv_c (c := 1) (x := (1 : Int32)) (by decide)) (by decide) (by decide)) (Int32.not_lt.mp c453))
        have f455 : iv 1 63 (((1 : Int32) <<< ((ac_gi s10 12) &&& 31)) - (1 : Int32)) := (iv_ler b1_10 (iv_sub (iv_shl1 (a := 0) (b := 6) (show iv 0 6 (ac_gi s10 12) from hG_10.1.1 12) (by decide)) (iv_c (c := 1) (x := (1 : Int32)) (by decide)) (by decide) (by decide)) (Int32.not_lt.mp c453))
        refine at_aload_n C 0 dX5_firstToLeave_18 rfl ?_
        refine at_iload_n C 1 dX5_firstToLeave_19 rfl ?_
        refine at_Vi C (As := [.int y1_10]) (st := []) (b := 5) (ci := 5) (ct_X5_wouldLeave s10 y1_10 hG_10.1) mb_X5_wouldLeave ml_X5_77 rfl rfl rfl (by decide) rfl (Nat.le_of_ble_eq_true rfl) dX5_firstToLeave_20 ?_
        rintro _ u458 ⟨hg457, rfl | rfl⟩
        · have hG460 := hG_10.tr hg457
          refine at_if_eq C 28 dX5_firstToLeave_23 (by decide) (fun c461 => ?_) (fun c461 => absurd (iv_xne (iv_c (c := 0) (x := (0 : Int32)) (by decide)) (iv_c (c := 0) (x := (0 : Int32)) (by decide))) c461)
          refine at_iinc C (v := (y1_10 + (1 : Int32))) (lv' := [(1, .int (y1_10 + (1 : Int32))), (0, .ref (e_q E 5))]) 1 dX5_firstToLeave_28 rfl rfl hn1 rfl ?_
          refine at_goto C 10 dX5_firstToLeave_31 (by decide) ?_
          exact at_sub [1, 0] rfl (ih10 (y1_10 + (1 : Int32)) u458 (mz_up hm10 (ac_ti1 f454 (iv_c (c := 1) (x := (1 : Int32)) (by decide)) (by decide) (by decide) (by decide)) (by decide) (iv_wk (iv_add f454 (iv_c (c := 1) (x := (1 : Int32)) (by decide)) (by decide) (by decide)) (by decide) (by decide) : iv 1 64 (y1_10 + (1 : Int32))).2) (iv_wk (iv_add f454 (iv_c (c := 1) (x := (1 : Int32)) (by decide)) (by decide) (by decide)) (by decide) (by decide) : iv 1 64 (y1_10 + (1 : Int32))) hG460)
        · have hG462 := hG_10.tr hg457
          refine at_if_eq C 28 dX5_firstToLeave_23 (by decide) (fun c463 => absurd c463 (iv_xeq (iv_c (c := 1) (x := (1 : Int32)) (by decide)) (iv_c (c := 0) (x := (0 : Int32)) (by decide)) (by decide))) (fun c463 => ?_)
          refine at_iload_n C 1 dX5_firstToLeave_26 rfl ?_
          exact hR _ _ _ _ dX5_firstToLeave_27 ⟨hG462, (iv_wk f454 (by decide) (by decide) : iv (-2147483648) 2147483647 y1_10)⟩
  refine at_aload_n C 0 dX5_firstToLeave_0 rfl ?_
  refine at_aload_n C 0 dX5_firstToLeave_1 rfl ?_
  refine at_Vi C (As := []) (st := [.ref (e_q E 5)]) (b := 5) (ci := 5) (ct_X5_allHouses σ) mb_X5_allHouses ml_X5_41 rfl rfl rfl (by decide) rfl (Nat.le_of_ble_eq_true rfl) dX5_firstToLeave_2 ?_
  rintro _ _ ⟨rfl, rfl⟩
  refine at_Vv C (As := [.int (((1 : Int32) <<< ((ac_gi σ 12) &&& 31)) - (1 : Int32))]) (st := []) (b := 5) (ci := 5) (ct_X5_share σ (((1 : Int32) <<< ((ac_gi σ 12) &&& 31)) - (1 : Int32)) hI) mb_X5_share ml_X5_60 rfl rfl rfl (by decide) rfl (Nat.le_of_ble_eq_true rfl) dX5_firstToLeave_5 ?_
  rintro u466 hg467
  have hG468 := hG0.tr hg467
  refine at_iconst C (1 : Int32) dX5_firstToLeave_8 (by decide) ?_
  refine at_istore_n C (lv' := [(1, .int (1 : Int32)), (0, .ref (e_q E 5))]) dX5_firstToLeave_9 hn1 rfl ?_
  exact at_sub [1, 0] rfl (K10 _ (1 : Int32) u466 (Nat.lt_succ_self _) (iv_wk (iv_c (c := 1) (x := (1 : Int32)) (by decide)) (by decide) (by decide) : iv 1 64 (1 : Int32)) hG468)
set_option maxHeartbeats 4000000 in
set_option maxRecDepth 100000 in
theorem ct_X5_addHouse (σ : SS) (hI : Inv σ) (gf12 : iv 0 5 (ac_gi σ 12)) : ConI yX5_addHouse cX5_addHouse 1 (some .int) 0 (some 5) [] σ (fun r σ' => (r = (((ac_gi σ 12) + (1 : Int32)) - (1 : Int32)) ∧ (ac_si (ac_si σ 12 ((ac_gi σ 12) + (1 : Int32))) 14 (1 : Int32)) = σ' ∧ Inv σ')) := by
  refine conI_of (by decide) (fun q => Nat.le_of_ble_eq_true rfl) (fun E C en hR => ?_)
  refine at_aload_n C 0 dX5_addHouse_0 rfl ?_
  refine at_dup C dX5_addHouse_1 rfl ?_
  refine gf_X5_9 C dX5_addHouse_2 ?_
  refine at_iconst C (1 : Int32) dX5_addHouse_5 (by decide) ?_
  refine at_iadd C dX5_addHouse_6 ?_
  refine pf_X5_9 C dX5_addHouse_7 ?_
  have hJ15 := Inv.si (k := 12) hI (iv_wk (iv_add gf12 (iv_c (c := 1) (x := (1 : Int32)) (by decide)) (by decide) (by decide)) (by decide) (by decide) : iv 0 6 ((ac_gi σ 12) + (1 : Int32)))
  refine at_aload_n C 0 dX5_addHouse_10 rfl ?_
  refine at_iconst C (1 : Int32) dX5_addHouse_11 (by decide) ?_
  refine pf_X5_37 C rfl rfl dX5_addHouse_12 ?_
  have hJ16 := Inv.si (k := 14) hJ15 (iv_wk (iv_c (c := 1) (x := (1 : Int32)) (by decide)) (by decide) (by decide) : iv 0 1 (1 : Int32))
  refine at_aload_n C 0 dX5_addHouse_15 rfl ?_
  refine gf_X5_9 C dX5_addHouse_16 ?_
  show AT E 19 [(0, .ref (e_q E 5))] [.int ((ac_gi σ 12) + (1 : Int32))] (ac_si (ac_si σ 12 ((ac_gi σ 12) + (1 : Int32))) 14 (1 : Int32))
  refine at_iconst C (1 : Int32) dX5_addHouse_19 (by decide) ?_
  refine at_isub C dX5_addHouse_20 ?_
  exact hR _ _ _ _ dX5_addHouse_21 ⟨rfl, rfl, hJ16⟩
set_option maxHeartbeats 4000000 in
set_option maxRecDepth 100000 in
theorem ct_X5_addSentence (σ : SS) (x1 : Int32) (x2 : Int32) (x3 : Int32) (hI : Inv σ) (g2 : iv 0 63 x2) : ConI yX5_addSentence cX5_addSentence 4 (some .int) 0 (some 5) [.int x1, .int x2, .int x3] σ (fun r σ' => ((¬ (((ac_gi σ 13).toInt < 24))) ∧ r = (-4 : Int32) ∧ σ = σ' ∧ Inv σ') ∨ ((((ac_gi σ 13).toInt < 24)) ∧ r = (((ac_gi σ 13) + (1 : Int32)) - (1 : Int32)) ∧ (ac_si (ac_si (ac_sa (ac_sa (ac_sa σ 21 (upd (ac_ga σ 21) ((ac_gi σ 13)).toNatClampNeg x1)) 22 (upd (ac_ga (ac_sa σ 21 (upd (ac_ga σ 21) ((ac_gi σ 13)).toNatClampNeg x1)) 22) ((ac_gi σ 13)).toNatClampNeg x2)) 23 (upd (ac_ga (ac_sa (ac_sa σ 21 (upd (ac_ga σ 21) ((ac_gi σ 13)).toNatClampNeg x1)) 22 (upd (ac_ga (ac_sa σ 21 (upd (ac_ga σ 21) ((ac_gi σ 13)).toNatClampNeg x1)) 22) ((ac_gi σ 13)).toNatClampNeg x2)) 23) ((ac_gi σ 13)).toNatClampNeg x3)) 13 ((ac_gi σ 13) + (1 : Int32))) 14 (1 : Int32)) = σ' ∧ Inv σ')) := by
  refine conI_of (by decide) (fun q => Nat.le_of_ble_eq_true rfl) (fun E C en hR => ?_)
  refine at_aload_n C 0 dX5_addSentence_0 rfl ?_
  refine gf_X5_15 C dX5_addSentence_1 ?_
  refine at_bipush C (24 : Int32) dX5_addSentence_4 (by decide) ?_
  refine at_icmp_lt C 12 dX5_addSentence_6 (by decide) (fun c57 => ?_) (fun c57 => ?_)
  · have f58 : iv 0 23 (ac_gi σ 13) := (iv_ltl (show iv 0 24 (ac_gi σ 13) from hI.1 13) (iv_c (c := 24) (x := (24 : Int32)) (by decide)) c57)
    refine at_aload_n C 0 dX5_addSentence_12 rfl ?_
    refine gf_X5_18 C dX5_addSentence_13 ?_
    refine at_aload_n C 0 dX5_addSentence_16 rfl ?_
    refine gf_X5_15 C dX5_addSentence_17 ?_
    refine at_iload_n C 1 dX5_addSentence_20 rfl ?_
    refine at_iast C (c := 21) rfl (fun f => ac_ast_21 _ _ _ _ f) (iv_in (n := 24) f58 (by decide) (by decide)) dX5_addSentence_21 ?_
    have hJ59 := Inv.sa (c := 21) (i := ((ac_gi σ 13)).toNatClampNeg) hI (show iv (-2147483648) 2147483647 x1 from (iv_any x1))
    refine at_aload_n C 0 dX5_addSentence_22 rfl ?_
    refine gf_X5_22 C dX5_addSentence_23 ?_
    refine at_aload_n C 0 dX5_addSentence_26 rfl ?_
    refine gf_X5_15 C dX5_addSentence_27 ?_
    show AT E 30 [(0, .ref (e_q E 5)), (1, .int x1), (2, .int x2), (3, .int x3)] [.int (ac_gi σ 13), .ref (e_q E 22)] (ac_sa σ 21 (upd (ac_ga σ 21) ((ac_gi σ 13)).toNatClampNeg x1))
    refine at_iload_n C 2 dX5_addSentence_30 rfl ?_
    refine at_iast C (c := 22) rfl (fun f => ac_ast_22 _ _ _ _ f) (iv_in (n := 24) f58 (by decide) (by decide)) dX5_addSentence_31 ?_
    have hJ60 := Inv.sa (c := 22) (i := ((ac_gi σ 13)).toNatClampNeg) hJ59 (show iv 0 63 x2 from g2)
    refine at_aload_n C 0 dX5_addSentence_32 rfl ?_
    refine gf_X5_25 C dX5_addSentence_33 ?_
    refine at_aload_n C 0 dX5_addSentence_36 rfl ?_
    refine gf_X5_15 C dX5_addSentence_37 ?_
    show AT E 40 [(0, .ref (e_q E 5)), (1, .int x1), (2, .int x2), (3, .int x3)] [.int (ac_gi σ 13), .ref (e_q E 23)] (ac_sa (ac_sa σ 21 (upd (ac_ga σ 21) ((ac_gi σ 13)).toNatClampNeg x1)) 22 (upd (ac_ga (ac_sa σ 21 (upd (ac_ga σ 21) ((ac_gi σ 13)).toNatClampNeg x1)) 22) ((ac_gi σ 13)).toNatClampNeg x2))
    refine at_iload_n C 3 dX5_addSentence_40 rfl ?_
    refine at_iast C (c := 23) rfl (fun f => ac_ast_23 _ _ _ _ f) (iv_in (n := 24) f58 (by decide) (by decide)) dX5_addSentence_41 ?_
    have hJ61 := Inv.sa (c := 23) (i := ((ac_gi σ 13)).toNatClampNeg) hJ60 (show iv (-2147483648) 2147483647 x3 from (iv_any x3))
    refine at_aload_n C 0 dX5_addSentence_42 rfl ?_
    refine at_dup C dX5_addSentence_43 rfl ?_
    refine gf_X5_15 C dX5_addSentence_44 ?_
    show AT E 47 [(0, .ref (e_q E 5)), (1, .int x1), (2, .int x2), (3, .int x3)] [.int (ac_gi σ 13), .ref (e_q E 5)] (ac_sa (ac_sa (ac_sa σ 21 (upd (ac_ga σ 21) ((ac_gi σ 13)).toNatClampNeg x1)) 22 (upd (ac_ga (ac_sa σ 21 (upd (ac_ga σ 21) ((ac_gi σ 13)).toNatClampNeg x1)) 22) ((ac_gi σ 13)).toNatClampNeg x2)) 23 (upd (ac_ga (ac_sa (ac_sa σ 21 (upd (ac_ga σ 21) ((ac_gi σ 13)).toNatClampNeg x1)) 22 (upd (ac_ga (ac_sa σ 21 (upd (ac_ga σ 21) ((ac_gi σ 13)).toNatClampNeg x1)) 22) ((ac_gi σ 13)).toNatClampNeg x2)) 23) ((ac_gi σ 13)).toNatClampNeg x3))
    refine at_iconst C (1 : Int32) dX5_addSentence_47 (by decide) ?_
    refine at_iadd C dX5_addSentence_48 ?_
    refine pf_X5_15 C dX5_addSentence_49 ?_
    have hJ62 := Inv.si (k := 13) hJ61 (iv_wk (iv_add f58 (iv_c (c := 1) (x := (1 : Int32)) (by decide)) (by decide) (by decide)) (by decide) (by decide) : iv 0 24 ((ac_gi σ 13) + (1 : Int32)))
    refine at_aload_n C 0 dX5_addSentence_52 rfl ?_
    refine at_iconst C (1 : Int32) dX5_addSentence_53 (by decide) ?_
    refine pf_X5_37 C rfl rfl dX5_addSentence_54 ?_
    have hJ63 := Inv.si (k := 14) hJ62 (iv_wk (iv_c (c := 1) (x := (1 : Int32)) (by decide)) (by decide) (by decide) : iv 0 1 (1 : Int32))
    refine at_aload_n C 0 dX5_addSentence_57 rfl ?_
    refine gf_X5_15 C dX5_addSentence_58 ?_
    show AT E 61 [(0, .ref (e_q E 5)), (1, .int x1), (2, .int x2), (3, .int x3)] [.int ((ac_gi σ 13) + (1 : Int32))] (ac_si (ac_si (ac_sa (ac_sa (ac_sa σ 21 (upd (ac_ga σ 21) ((ac_gi σ 13)).toNatClampNeg x1)) 22 (upd (ac_ga (ac_sa σ 21 (upd (ac_ga σ 21) ((ac_gi σ 13)).toNatClampNeg x1)) 22) ((ac_gi σ 13)).toNatClampNeg x2)) 23 (upd (ac_ga (ac_sa (ac_sa σ 21 (upd (ac_ga σ 21) ((ac_gi σ 13)).toNatClampNeg x1)) 22 (upd (ac_ga (ac_sa σ 21 (upd (ac_ga σ 21) ((ac_gi σ 13)).toNatClampNeg x1)) 22) ((ac_gi σ 13)).toNatClampNeg x2)) 23) ((ac_gi σ 13)).toNatClampNeg x3)) 13 ((ac_gi σ 13) + (1 : Int32))) 14 (1 : Int32))
    refine at_iconst C (1 : Int32) dX5_addSentence_61 (by decide) ?_
    refine at_isub C dX5_addSentence_62 ?_
    exact hR _ _ _ _ dX5_addSentence_63 (Or.inr ⟨(by have t1 := iv_lt c57; have k0 : (24 : Int32).toInt = 24 := (by decide); omega), rfl, rfl, hJ63⟩)
  · have f64 : iv 24 24 (ac_gi σ 13) := (iv_ler (iv_c (c := 24) (x := (24 : Int32)) (by decide)) (show iv 0 24 (ac_gi σ 13) from hI.1 13) (Int32.not_lt.mp c57))
    refine at_bipush C (-4 : Int32) dX5_addSentence_9 (by decide) ?_
    exact hR _ _ _ _ dX5_addSentence_11 (Or.inl ⟨(by have t1 := iv_le (Int32.not_lt.mp c57); have k0 : (24 : Int32).toInt = 24 := (by decide); omega), rfl, rfl, hI⟩)
