def ac_s0i (k : Nat) : Int32 := match k with
  | 1 => (3 : Int32)
  | 2 => (2000 : Int32)
  | 3 => (1 : Int32)
  | 5 => (100 : Int32)
  | 6 => (10 : Int32)
  | 14 => (1 : Int32)
  | 16 => (3 : Int32)
  | 17 => (2000 : Int32)
  | 20 => (100 : Int32)
  | 21 => (10 : Int32)
  | _ => 0
def ac_m1 : Nat → Int32 := (upd (upd (upd (upd (upd (upd (upd (upd (upd (upd (fun _ => 0) 0 (-1 : Int32)) 1 (-1 : Int32)) 2 (-1 : Int32)) 3 (-1 : Int32)) 4 (-1 : Int32)) 5 (-1 : Int32)) 6 (-1 : Int32)) 7 (-1 : Int32)) 8 (-1 : Int32)) 9 (-1 : Int32))
def ac_s0a (c : Nat) : Nat → Int32 := match c with
  | 27 => ac_m1
  | 28 => ac_m1
  | 48 => ac_m1
  | 49 => ac_m1
  | _ => fun _ => 0
def ac_s0 : SS := (ac_s0i, (ac_s0a, 0))
theorem il_big {k : Nat} (h : 28 ≤ k) : ac_il k = -2147483648 := by
  unfold ac_il
  split <;> first | rfl | omega
theorem ih_big {k : Nat} (h : 28 ≤ k) : ac_ih k = 2147483647 := by
  unfold ac_ih
  split <;> first | rfl | omega
theorem s0_ints : ∀ k, k < 28 → ac_il k ≤ (ac_s0i k).toInt ∧ (ac_s0i k).toInt ≤ ac_ih k := by decide +kernel
theorem s0_rows : ∀ c, c < 52 → ac_al c = -2147483648 ∧ ac_ah c = 2147483647 ∨ (ac_al c ≤ 0 ∧ 0 ≤ ac_ah c ∧ c ≠ 27 ∧ c ≠ 28 ∧ c ≠ 48 ∧ c ≠ 49) := by decide +kernel
theorem al_big {c : Nat} (h : 52 ≤ c) : ac_al c = -2147483648 ∧ ac_ah c = 2147483647 := by
  constructor
  · unfold ac_al
    split <;> first | rfl | omega
  · unfold ac_ah
    split <;> first | rfl | omega
theorem s0a_zero {c : Nat} (h : c ≠ 27 ∧ c ≠ 28 ∧ c ≠ 48 ∧ c ≠ 49) (j : Nat) : ac_s0a c j = 0 := by
  unfold ac_s0a
  split <;> first | rfl | omega
theorem s0_inv : Inv ac_s0 := by
  refine ⟨fun k => ?_, fun c j => ?_⟩
  · by_cases h : k < 28
    · exact s0_ints k h
    · rw [il_big (by omega), ih_big (by omega)]
      exact iv_any _
  · by_cases h : c < 52
    · rcases s0_rows c h with ⟨h1, h2⟩ | ⟨h1, h2, h3⟩
      · rw [h1, h2]
        exact iv_any _
      · show iv _ _ (ac_s0a c j)
        rw [s0a_zero h3]
        exact ⟨h1, h2⟩
    · rw [(al_big (by omega)).1, (al_big (by omega)).2]
      exact iv_any _
theorem s0_ok : Ok ac_s0 := by
  refine ⟨s0_inv, ⟨rfl, rfl, rfl, rfl, rfl, rfl, rfl⟩, ⟨rfl, rfl, rfl, rfl, rfl, rfl, rfl, rfl, rfl, rfl⟩, ?_, fun j hj => by have hj : tb 0 j = true := hj; rw [tb_0] at hj; cases hj⟩
  have h : ∀ j : Nat, j < 10 → (((ac_s0i 4 >>> (nI j &&& 31)) &&& 1) = 0 ↔ ac_s0a 36 j = 0) := by decide +kernel
  exact h
set_option maxHeartbeats 4000000 in
set_option maxRecDepth 100000 in
theorem lw_N {s : State} {a : Array Value} (hts : ∀ w ∈ lw_tbl, w.before a s = true) : ac_N s := by
  intro w hw
  have h1 := hts w (List.mem_filter.mp hw).1
  have h2 := (List.mem_filter.mp hw).2
  cases w <;> first | exact absurd (show false = true from h2) Bool.false_ne_true | exact va_Nw.of rfl h1
set_option maxHeartbeats 4000000 in
set_option maxRecDepth 100000 in
theorem lw_shut {s : State} {b : Nat} {A : Nat → Prop} (hts : ∀ w ∈ lw_tbl, w.before #[Value.ref b] s = true) (hgv : (Jvm.Cond.and given_1 narrow_1).before #[Value.ref b] s = true) (hA : ∀ a : Nat, a < s.heap.size → ¬ A a) : ∃ t : Nat, va_Z "AirClock" "SHUT" "[I" (.ref t) A s s.heap ∧ va_T .int t 18 (fun j => .int (ac_shut j)) A s s.heap := by
  have hs := flat_of_before _ hgv
  have hel : ∀ j : Nat, j < 18 → (Term.elem (.static "AirClock" "SHUT" "[I") (.int (Int32.ofNat j))).eval #[Value.ref b] s none [] s = some (.int (ac_shut j)) := by
    intro j hj
    exact match j, hj with
      | 0, _ => va_eqt (z := 0) (hs _ (by decide +kernel))
      | 1, _ => va_eqt (z := 0) (hs _ (by decide +kernel))
      | 2, _ => va_eqt (z := 0) (hs _ (by decide +kernel))
      | 3, _ => va_eqt (z := 0) (hs _ (by decide +kernel))
      | 4, _ => va_eqt (z := 0) (hs _ (by decide +kernel))
      | 5, _ => va_eqt (z := 0) (hs _ (by decide +kernel))
      | 6, _ => va_eqt (z := 1) (hs _ (by decide +kernel))
      | 7, _ => va_eqt (z := 2) (hs _ (by decide +kernel))
      | 8, _ => va_eqt (z := 4) (hs _ (by decide +kernel))
      | 9, _ => va_eqt (z := 8) (hs _ (by decide +kernel))
      | 10, _ => va_eqt (z := 16) (hs _ (by decide +kernel))
      | 11, _ => va_eqt (z := 32) (hs _ (by decide +kernel))
      | 12, _ => va_eqt (z := 3) (hs _ (by decide +kernel))
      | 13, _ => va_eqt (z := 7) (hs _ (by decide +kernel))
      | 14, _ => va_eqt (z := 14) (hs _ (by decide +kernel))
      | 15, _ => va_eqt (z := 28) (hs _ (by decide +kernel))
      | 16, _ => va_eqt (z := 56) (hs _ (by decide +kernel))
      | 17, _ => va_eqt (z := 48) (hs _ (by decide +kernel))
      | k + 18, h => absurd h (by omega)
  obtain ⟨t, ht, hT⟩ := va_Tof (N := 18) (f := fun j => .int (ac_shut j)) (A := A) (by decide) (hs (Cond.arrayOf (.static "AirClock" "SHUT" "[I") .int) (by decide +kernel)) (va_eqt (z := 18) (hs _ (by decide +kernel))) hel hA
  exact ⟨t, va_Zref (hts _ (List.mem_of_getElem? (i := 357) (by decide +kernel))) (hts _ (List.mem_filter.mp wn_X6).1) ht hA, hT⟩
set_option maxHeartbeats 4000000 in
set_option maxRecDepth 100000 in
/-- THE LAW, from its entry -/
theorem whole_start {p : Program} {e : Env} {s : State} {m : MethodId} {below : List Frame} {meth : Method} {c : Code} (l : Launch) {b L : Nat} {xs : Nat → Int32} (hL : L ≤ 2560) (C0 : lw_At p s m meth c b L xs) : W p l e room_1 s m #[Value.ref b] below meth c s.heap [] 0 0 (lw_Z below #[Value.ref b] s) (entryFrame m ([Value.ref b] : List Value).toArray 4) := by
  obtain ⟨hx, hb, hr, hml, hown, hts, hX, hbl, hlocks, hgv⟩ := id C0
  have hg : ∀ w ∈ lw_good, w.before #[Value.ref b] s = true := fun w h => hts w (List.mem_filter.mp h).1
  have hN : ac_N s := lw_N hts
  obtain ⟨c0, iS0, hKn0⟩ := u_known (C := RX0) (T := TX0) (N := 6) (n := 6) hg inw_X0 (hg _ wt_X0)
  obtain ⟨c1, iS1, hKn1⟩ := u_known (C := RX1) (T := TX1) (N := 12) (n := 12) hg inw_X1 (hg _ wt_X1)
  obtain ⟨c2, iS2, hKn2⟩ := u_known (C := RX2) (T := TX2) (N := 4) (n := 4) hg inw_X2 (hg _ wt_X2)
  obtain ⟨c3, iS3, hKn3⟩ := u_known (C := RX3) (T := TX3) (N := 4) (n := 4) hg inw_X3 (hg _ wt_X3)
  obtain ⟨c4, iS4, hKn4⟩ := u_known (C := RX4) (T := TX4) (N := 7) (n := 7) hg inw_X4 (hg _ wt_X4)
  obtain ⟨c5, iS5, hKn5⟩ := u_known (C := RX5) (T := TX5) (N := 9) (n := 9) hg inw_X5 (hg _ wt_X5)
  obtain ⟨c6, iS6, hKn6⟩ := u_known (C := RX6) (T := TX6) (N := 7) (n := 7) hg inw_X6 (hg _ wt_X6)
  obtain ⟨c7, iS7, hKn7⟩ := u_known (C := RX7) (T := TX7) (N := 35) (n := 35) hg inw_X7 (hg _ wt_X7)
  obtain ⟨cI, kI, coI, fI, gI, hI⟩ := Cond.arrayClass_spec (hg _ wi_aI)
  obtain ⟨cZ, kZ, coZ, fZ, gZ, hZ⟩ := Cond.arrayClass_spec (hg _ wi_aZ)
  obtain ⟨D, hKc⟩ : ∃ D : va_G, ∀ (k : Nat) (q : vw_C), vwCl[k]? = some q → u_Kn s q.1 q.2.1 q.2.2 (D.1 k) (D.2 k) := by
    refine ⟨(fun k => ([c0, c1, c2, c3, c4, c5, c6, c7] : List ClassId).getD k 0, fun k => ([iS0, iS1, iS2, iS3, iS4, iS5, iS6, iS7] : List (Nat → Nat)).getD k (fun _ => 0)), ?_⟩
    intro k q hq
    match k, hq with
    | 0, hq => cases hq; exact hKn0
    | 1, hq => cases hq; exact hKn1
    | 2, hq => cases hq; exact hKn2
    | 3, hq => cases hq; exact hKn3
    | 4, hq => cases hq; exact hKn4
    | 5, hq => cases hq; exact hKn5
    | 6, hq => cases hq; exact hKn6
    | 7, hq => cases hq; exact hKn7
    | k + 8, hq => exact absurd hq (by simp [vwCl])
  have hK : va_K D vwCl (ac_tys cI cZ) s := by
    refine ⟨hKc, fun k q hq => ?_⟩
    match k, hq with
    | 0, hq => cases hq; exact ⟨fun n z => ⟨fun k h => (by cases h), kI, gI, coI, hI⟩, fI⟩
    | 1, hq => cases hq; exact ⟨fun n z => ⟨fun k h => (by cases h), kZ, gZ, coZ, hZ⟩, fZ⟩
    | k + 2, hq => simp at hq
  have hA : ∀ q : Nat, s.heap.size ≤ q → (fun q : Nat => s.heap.size ≤ q) q := fun _ h => h
  have hnA : ∀ a : Nat, a < s.heap.size → ¬ (fun q : Nat => s.heap.size ≤ q) a := fun a h h2 => by
    have : s.heap.size ≤ a := h2
    omega
  obtain ⟨t, hSZ, hST⟩ := lw_shut (A := fun q : Nat => s.heap.size ≤ q) hts hgv hnA
  have hl := lv_entry ([.ref b]) (n := 4) (Nat.le_of_ble_eq_true rfl)
  rw [lg_entry_eq]
  have C : CB ((p, l, e, room_1, s), (m, #[Value.ref b], below, meth, c), (D, fun _ => 0, cI, cZ, t), (fun q : Nat => s.heap.size ≤ q, lw_Z below #[Value.ref b] s, 0, 0, 4)) D cI cZ code RL 1000 600000 7302250 := ⟨⟨hx, hb, hml, hown⟩, ⟨hg, hN⟩, hK, hA, hlocks, ⟨show 1000 ≤ 2048 from by decide, show 64 * 1000 ≤ 84000 from by decide⟩, Nat.le_refl _, Nat.le_refl _⟩
  suffices h : BT ((p, l, e, room_1, s), (m, #[Value.ref b], below, meth, c), (D, fun _ => 0, cI, cZ, t), (fun q : Nat => s.heap.size ≤ q, lw_Z below #[Value.ref b] s, 0, 0, 4)) D 0 [(0, .ref b)] [] [] 0 0 from
    h s.heap [] _ (fun k q h => by simp at h) ⟨fun i j p q h => by simp at h, fun k q h => by simp at h⟩ va_S.rf hl
  refine bt_new C (ci := 6) tyX6_ok inw_X6 wk_L_7 wt_X6 wn_X6 rfl bl_X6 (by decide) (by decide) dL_law_0 (fun q1 => ?_)
  show BT _ D 3 [(0, .ref b)] [.ref q1] [(q1, .inr (6, [.null, .null, .null, .null, .null, .null, .null]))] 1 7
  refine bt_dup C dL_law_3 rfl ?_
  refine bt_initI C (As := []) (st := [.ref q1]) (ct_X6_init D cI cZ q1) mi_X6_init mj_X6_init rfl wl_L_9 [0] [] rfl rfl rfl (wr := []) rfl (by decide) (by decide) rfl (by decide) (by decide) (by decide) rfl (Nat.le_of_ble_eq_true rfl) dL_law_4 (fun u1 => ?_)
  refine bt_astore_n C (lv' := [(1, .ref q1), (0, .ref b)]) dL_law_7 (show 1 < 4 from by decide) rfl ?_
  refine bt_new C (ci := 7) tyX7_ok inw_X7 wk_L_10 wt_X7 wn_X7 rfl bl_X7 (by decide) (by decide) dL_law_8 (fun q2 => ?_)
  refine bt_dup C dL_law_11 rfl ?_
  show BT _ D 12 [(1, .ref q1), (0, .ref b)] [.ref q2, .ref q2] [(q1, .inr (6, [.ref (u1 0), .ref (u1 3), .ref (u1 8), .ref (u1 12), .ref (u1 17), .ref (u1 24), .ref (u1 28)])), ((u1 0), .inr (0, [.int (0 : Int32), .int (3 : Int32), .int (2000 : Int32), .int (1 : Int32), .ref (u1 1), .ref (u1 2)])), ((u1 1), .inl (cI, 10, .inl (fun _ => 0))), ((u1 2), .inl (cI, 100, .inl (fun _ => 0))), ((u1 3), .inr (4, [.int (0 : Int32), .ref (u1 0), .int (0 : Int32), .ref (u1 4), .ref (u1 5), .ref (u1 6), .ref (u1 7)])), ((u1 4), .inl (cI, 10, .inl (fun _ => 0))), ((u1 5), .inl (cI, 10, .inl (fun _ => 0))), ((u1 6), .inl (cI, 10, .inl (fun _ => 0))), ((u1 7), .inl (cI, 1024, .inl (fun _ => 0))), ((u1 8), .inr (3, [.ref (u1 0), .ref (u1 9), .ref (u1 10), .ref (u1 11)])), ((u1 9), .inl (cI, 10, .inl (fun _ => 0))), ((u1 10), .inl (cI, 10, .inl (fun _ => 0))), ((u1 11), .inl (cI, 110, .inl (fun _ => 0))), ((u1 12), .inr (1, [.int (0 : Int32), .int (100 : Int32), .int (10 : Int32), .ref (u1 13), .ref (u1 14), .ref (u1 15), .ref (u1 16), .ref (u1 0), .ref (u1 3), .int (0 : Int32), .int (0 : Int32), .int (0 : Int32)])), ((u1 13), .inl (cI, 10, .inl (fun _ => 0))), ((u1 14), .inl (cI, 10, .inl (fun _ => 0))), ((u1 15), .inl (cI, 10, .inl (fun _ => 0))), ((u1 16), .inl (cI, 10, .inl (fun _ => 0))), ((u1 17), .inr (5, [.int (0 : Int32), .int (0 : Int32), .ref (u1 18), .ref (u1 19), .ref (u1 20), .ref (u1 21), .ref (u1 22), .ref (u1 23), .int (1 : Int32)])), ((u1 18), .inl (cI, 24, .inl (fun _ => 0))), ((u1 19), .inl (cI, 24, .inl (fun _ => 0))), ((u1 20), .inl (cI, 24, .inl (fun _ => 0))), ((u1 21), .inl (cI, 6, .inl (fun _ => 0))), ((u1 22), .inl (cI, 6, .inl (fun _ => 0))), ((u1 23), .inl (cI, 4096, .inl (fun _ => 0))), ((u1 24), .inr (2, [.ref (u1 25), .ref (u1 26), .ref (u1 0), .ref (u1 27)])), ((u1 25), .inl (cI, 10, .inl (upd (upd (upd (upd (upd (upd (upd (upd (upd (upd (fun _ => 0) 0 (-1 : Int32)) 1 (-1 : Int32)) 2 (-1 : Int32)) 3 (-1 : Int32)) 4 (-1 : Int32)) 5 (-1 : Int32)) 6 (-1 : Int32)) 7 (-1 : Int32)) 8 (-1 : Int32)) 9 (-1 : Int32)))), ((u1 26), .inl (cI, 10, .inl (upd (upd (upd (upd (upd (upd (upd (upd (upd (upd (fun _ => 0) 0 (-1 : Int32)) 1 (-1 : Int32)) 2 (-1 : Int32)) 3 (-1 : Int32)) 4 (-1 : Int32)) 5 (-1 : Int32)) 6 (-1 : Int32)) 7 (-1 : Int32)) 8 (-1 : Int32)) 9 (-1 : Int32)))), ((u1 27), .inl (cI, 1024, .inl (fun _ => 0))), ((u1 28), .inl (cI, 16, .inl (fun _ => 0))), (q2, .inr (7, [.int (0 : Int32), .int (0 : Int32), .int (0 : Int32), .null, .null, .null, .null, .int (0 : Int32), .int (0 : Int32), .null, .null, .null, .null, .int (0 : Int32), .int (0 : Int32), .int (0 : Int32), .int (0 : Int32), .int (0 : Int32), .null, .null, .int (0 : Int32), .null, .int (0 : Int32), .null, .null, .null, .null, .null, .int (0 : Int32), .null, .null, .null, .null, .null, .long 0]))] 31 6658
  refine bt_initI C (As := []) (st := [.ref q2]) (ct_X7_init D cI cZ q2) mi_X7_init mj_X7_init rfl wl_L_12 [30] [0, 1, 2, 3, 4, 5, 6, 7, 8, 9, 10, 11, 12, 13, 14, 15, 16, 17, 18, 19, 20, 21, 22, 23, 24, 25, 26, 27, 28, 29] rfl rfl rfl (wr := [(q1, .inr (6, [.ref (u1 0), .ref (u1 3), .ref (u1 8), .ref (u1 12), .ref (u1 17), .ref (u1 24), .ref (u1 28)])), ((u1 0), .inr (0, [.int (0 : Int32), .int (3 : Int32), .int (2000 : Int32), .int (1 : Int32), .ref (u1 1), .ref (u1 2)])), ((u1 1), .inl (cI, 10, .inl (fun _ => 0))), ((u1 2), .inl (cI, 100, .inl (fun _ => 0))), ((u1 3), .inr (4, [.int (0 : Int32), .ref (u1 0), .int (0 : Int32), .ref (u1 4), .ref (u1 5), .ref (u1 6), .ref (u1 7)])), ((u1 4), .inl (cI, 10, .inl (fun _ => 0))), ((u1 5), .inl (cI, 10, .inl (fun _ => 0))), ((u1 6), .inl (cI, 10, .inl (fun _ => 0))), ((u1 7), .inl (cI, 1024, .inl (fun _ => 0))), ((u1 8), .inr (3, [.ref (u1 0), .ref (u1 9), .ref (u1 10), .ref (u1 11)])), ((u1 9), .inl (cI, 10, .inl (fun _ => 0))), ((u1 10), .inl (cI, 10, .inl (fun _ => 0))), ((u1 11), .inl (cI, 110, .inl (fun _ => 0))), ((u1 12), .inr (1, [.int (0 : Int32), .int (100 : Int32), .int (10 : Int32), .ref (u1 13), .ref (u1 14), .ref (u1 15), .ref (u1 16), .ref (u1 0), .ref (u1 3), .int (0 : Int32), .int (0 : Int32), .int (0 : Int32)])), ((u1 13), .inl (cI, 10, .inl (fun _ => 0))), ((u1 14), .inl (cI, 10, .inl (fun _ => 0))), ((u1 15), .inl (cI, 10, .inl (fun _ => 0))), ((u1 16), .inl (cI, 10, .inl (fun _ => 0))), ((u1 17), .inr (5, [.int (0 : Int32), .int (0 : Int32), .ref (u1 18), .ref (u1 19), .ref (u1 20), .ref (u1 21), .ref (u1 22), .ref (u1 23), .int (1 : Int32)])), ((u1 18), .inl (cI, 24, .inl (fun _ => 0))), ((u1 19), .inl (cI, 24, .inl (fun _ => 0))), ((u1 20), .inl (cI, 24, .inl (fun _ => 0))), ((u1 21), .inl (cI, 6, .inl (fun _ => 0))), ((u1 22), .inl (cI, 6, .inl (fun _ => 0))), ((u1 23), .inl (cI, 4096, .inl (fun _ => 0))), ((u1 24), .inr (2, [.ref (u1 25), .ref (u1 26), .ref (u1 0), .ref (u1 27)])), ((u1 25), .inl (cI, 10, .inl (upd (upd (upd (upd (upd (upd (upd (upd (upd (upd (fun _ => 0) 0 (-1 : Int32)) 1 (-1 : Int32)) 2 (-1 : Int32)) 3 (-1 : Int32)) 4 (-1 : Int32)) 5 (-1 : Int32)) 6 (-1 : Int32)) 7 (-1 : Int32)) 8 (-1 : Int32)) 9 (-1 : Int32)))), ((u1 26), .inl (cI, 10, .inl (upd (upd (upd (upd (upd (upd (upd (upd (upd (upd (fun _ => 0) 0 (-1 : Int32)) 1 (-1 : Int32)) 2 (-1 : Int32)) 3 (-1 : Int32)) 4 (-1 : Int32)) 5 (-1 : Int32)) 6 (-1 : Int32)) 7 (-1 : Int32)) 8 (-1 : Int32)) 9 (-1 : Int32)))), ((u1 27), .inl (cI, 1024, .inl (fun _ => 0))), ((u1 28), .inl (cI, 16, .inl (fun _ => 0)))]) rfl (by decide) (by decide) rfl (by decide) (by decide) (by decide) rfl (Nat.le_of_ble_eq_true rfl) dL_law_12 (fun u2 => ?_)
  refine bt_astore_n C (lv' := [(2, .ref q2), (1, .ref q1), (0, .ref b)]) dL_law_15 (show 2 < 4 from by decide) rfl ?_
  show BT _ D 16 [(2, .ref q2), (1, .ref q1), (0, .ref b)] [] [(q1, .inr (6, [.ref (u1 0), .ref (u1 3), .ref (u1 8), .ref (u1 12), .ref (u1 17), .ref (u1 24), .ref (u1 28)])), ((u1 0), .inr (0, [.int (0 : Int32), .int (3 : Int32), .int (2000 : Int32), .int (1 : Int32), .ref (u1 1), .ref (u1 2)])), ((u1 1), .inl (cI, 10, .inl (fun _ => 0))), ((u1 2), .inl (cI, 100, .inl (fun _ => 0))), ((u1 3), .inr (4, [.int (0 : Int32), .ref (u1 0), .int (0 : Int32), .ref (u1 4), .ref (u1 5), .ref (u1 6), .ref (u1 7)])), ((u1 4), .inl (cI, 10, .inl (fun _ => 0))), ((u1 5), .inl (cI, 10, .inl (fun _ => 0))), ((u1 6), .inl (cI, 10, .inl (fun _ => 0))), ((u1 7), .inl (cI, 1024, .inl (fun _ => 0))), ((u1 8), .inr (3, [.ref (u1 0), .ref (u1 9), .ref (u1 10), .ref (u1 11)])), ((u1 9), .inl (cI, 10, .inl (fun _ => 0))), ((u1 10), .inl (cI, 10, .inl (fun _ => 0))), ((u1 11), .inl (cI, 110, .inl (fun _ => 0))), ((u1 12), .inr (1, [.int (0 : Int32), .int (100 : Int32), .int (10 : Int32), .ref (u1 13), .ref (u1 14), .ref (u1 15), .ref (u1 16), .ref (u1 0), .ref (u1 3), .int (0 : Int32), .int (0 : Int32), .int (0 : Int32)])), ((u1 13), .inl (cI, 10, .inl (fun _ => 0))), ((u1 14), .inl (cI, 10, .inl (fun _ => 0))), ((u1 15), .inl (cI, 10, .inl (fun _ => 0))), ((u1 16), .inl (cI, 10, .inl (fun _ => 0))), ((u1 17), .inr (5, [.int (0 : Int32), .int (0 : Int32), .ref (u1 18), .ref (u1 19), .ref (u1 20), .ref (u1 21), .ref (u1 22), .ref (u1 23), .int (1 : Int32)])), ((u1 18), .inl (cI, 24, .inl (fun _ => 0))), ((u1 19), .inl (cI, 24, .inl (fun _ => 0))), ((u1 20), .inl (cI, 24, .inl (fun _ => 0))), ((u1 21), .inl (cI, 6, .inl (fun _ => 0))), ((u1 22), .inl (cI, 6, .inl (fun _ => 0))), ((u1 23), .inl (cI, 4096, .inl (fun _ => 0))), ((u1 24), .inr (2, [.ref (u1 25), .ref (u1 26), .ref (u1 0), .ref (u1 27)])), ((u1 25), .inl (cI, 10, .inl (upd (upd (upd (upd (upd (upd (upd (upd (upd (upd (fun _ => 0) 0 (-1 : Int32)) 1 (-1 : Int32)) 2 (-1 : Int32)) 3 (-1 : Int32)) 4 (-1 : Int32)) 5 (-1 : Int32)) 6 (-1 : Int32)) 7 (-1 : Int32)) 8 (-1 : Int32)) 9 (-1 : Int32)))), ((u1 26), .inl (cI, 10, .inl (upd (upd (upd (upd (upd (upd (upd (upd (upd (upd (fun _ => 0) 0 (-1 : Int32)) 1 (-1 : Int32)) 2 (-1 : Int32)) 3 (-1 : Int32)) 4 (-1 : Int32)) 5 (-1 : Int32)) 6 (-1 : Int32)) 7 (-1 : Int32)) 8 (-1 : Int32)) 9 (-1 : Int32)))), ((u1 27), .inl (cI, 1024, .inl (fun _ => 0))), ((u1 28), .inl (cI, 16, .inl (fun _ => 0))), (q2, .inr (7, [.int (0 : Int32), .int (3 : Int32), .int (2000 : Int32), .ref (u2 0), .ref (u2 1), .ref (u2 2), .ref (u2 3), .int (0 : Int32), .int (0 : Int32), .ref (u2 4), .ref (u2 5), .ref (u2 6), .ref (u2 7), .int (100 : Int32), .int (10 : Int32), .int (0 : Int32), .int (0 : Int32), .int (0 : Int32), .ref (u2 8), .ref (u2 9), .int (0 : Int32), .ref (u2 10), .int (0 : Int32), .ref (u2 11), .ref (u2 12), .ref (u2 13), .ref (u2 14), .ref (u2 15), .int (0 : Int32), .ref (u2 16), .ref (u2 17), .ref (u2 18), .ref (u2 19), .ref (u2 20), .long 0])), ((u2 0), .inl (cI, 100, .inl (fun _ => 0))), ((u2 1), .inl (cI, 10, .inl (fun _ => 0))), ((u2 2), .inl (cI, 10, .inl (fun _ => 0))), ((u2 3), .inl (cI, 10, .inl (fun _ => 0))), ((u2 4), .inl (cZ, 1024, .inl (fun _ => 0))), ((u2 5), .inl (cZ, 10, .inl (fun _ => 0))), ((u2 6), .inl (cI, 10, .inl (fun _ => 0))), ((u2 7), .inl (cI, 10, .inl (fun _ => 0))), ((u2 8), .inl (cI, 10, .inl (fun _ => 0))), ((u2 9), .inl (cI, 10, .inl (fun _ => 0))), ((u2 10), .inl (cI, 6, .inl (fun _ => 0))), ((u2 11), .inl (cI, 24, .inl (fun _ => 0))), ((u2 12), .inl (cI, 24, .inl (fun _ => 0))), ((u2 13), .inl (cI, 24, .inl (fun _ => 0))), ((u2 14), .inl (cI, 6, .inl (fun _ => 0))), ((u2 15), .inl (cI, 6, .inl (fun _ => 0))), ((u2 16), .inl (cI, 448, .inl (fun _ => 0))), ((u2 17), .inl (cI, 10, .inl (upd (upd (upd (upd (upd (upd (upd (upd (upd (upd (fun _ => 0) 0 (-1 : Int32)) 1 (-1 : Int32)) 2 (-1 : Int32)) 3 (-1 : Int32)) 4 (-1 : Int32)) 5 (-1 : Int32)) 6 (-1 : Int32)) 7 (-1 : Int32)) 8 (-1 : Int32)) 9 (-1 : Int32)))), ((u2 18), .inl (cI, 10, .inl (upd (upd (upd (upd (upd (upd (upd (upd (upd (upd (fun _ => 0) 0 (-1 : Int32)) 1 (-1 : Int32)) 2 (-1 : Int32)) 3 (-1 : Int32)) 4 (-1 : Int32)) 5 (-1 : Int32)) 6 (-1 : Int32)) 7 (-1 : Int32)) 8 (-1 : Int32)) 9 (-1 : Int32)))), ((u2 19), .inl (cI, 1024, .inl (fun _ => 0))), ((u2 20), .inl (cI, 16, .inl (fun _ => 0)))] 52 9460
  intro H locs ls hP hD hS hl
  obtain ⟨q, hq⟩ : ∃ q : Nat → Nat, q = (fun k => ([q1, (u1 0), (u1 3), (u1 8), (u1 12), (u1 17), (u1 24), (u1 28), (u1 1), (u1 2), (u1 4), (u1 5), (u1 6), (u1 7), (u1 9), (u1 10), (u1 11), (u1 13), (u1 14), (u1 15), (u1 16), (u1 18), (u1 19), (u1 20), (u1 21), (u1 22), (u1 23), (u1 25), (u1 26), (u1 27), q2, (u2 0), (u2 1), (u2 2), (u2 3), (u2 4), (u2 5), (u2 6), (u2 7), (u2 8), (u2 9), (u2 10), (u2 11), (u2 12), (u2 13), (u2 14), (u2 15), (u2 16), (u2 17), (u2 18), (u2 19), (u2 20)] : List Nat).getD k 0) := ⟨_, rfl⟩
  have e0 : q1 = q 0 := by rw [hq]; rfl
  have e30 : q2 = q 30 := by rw [hq]; rfl
  have hP := hP.sub (ws' := ac_wd q cI cZ ac_s0) [0, 1, 4, 9, 13, 18, 25, 29, 2, 3, 5, 6, 7, 8, 10, 11, 12, 14, 15, 16, 17, 19, 20, 21, 22, 23, 24, 26, 27, 28, 30, 31, 32, 33, 34, 35, 36, 37, 38, 39, 40, 41, 42, 43, 44, 45, 46, 47, 48, 49, 50, 51] (by rw [hq]; rfl)
  have hD := hD.sub (ws' := ac_wd q cI cZ ac_s0) [0, 1, 4, 9, 13, 18, 25, 29, 2, 3, 5, 6, 7, 8, 10, 11, 12, 14, 15, 16, 17, 19, 20, 21, 22, 23, 24, 26, 27, 28, 30, 31, 32, 33, 34, 35, 36, 37, 38, 39, 40, 41, 42, 43, 44, 45, 46, 47, 48, 49, 50, 51] (by decide) (by rw [hq]; rfl)
  obtain ⟨E, hE⟩ : ∃ E : EV, E = ((p, l, e, room_1, s), (m, #[Value.ref b], below, meth, c), (D, q, cI, cZ, t), (fun q : Nat => s.heap.size ≤ q, lw_Z below #[Value.ref b] s, 52, 9460, 4)) := ⟨_, rfl⟩
  have C1 : CX E code RL 1000 := by rw [hE]; exact ⟨hx, hb, hml, hown, ⟨hg, hN⟩, hK, hA, hlocks, hSZ, hST, ⟨show 1000 ≤ 2048 from by decide, show 64 * 1000 ≤ 84000 from by decide⟩, show 52 ≤ 600000 from by decide, show 9460 ≤ 7302250 from by decide⟩
  have hR : ∀ (pc : Nat) (lv : List (Nat × Value)) (σ : SS), decode code pc = .ok (.ireturn, 1) → AT E pc lv [.int 1] σ := by
    intro pc lv σ hd
    rw [hE]
    intro H locs ls hP hD hS hl
    refine va_forget (fun q hq => hS.2.2 q hq) ?_
    refine W.widen (k := 600000) (n := 7302250) (show 52 ≤ 600000 from by decide) (show 9460 ≤ 7302250 from by decide) ?_
    exact lw_ret hx hb hr hlocks hd
  have hn : e_n E = 4 := by rw [hE]
  have K : AT E 16 [(2, .ref (e_q E 30)), (1, .ref (e_q E 0)), (0, .ref b)] [] ac_s0 := by
    refine at_iconst C1 (0 : Int32) dL_law_16 (by decide) ?_
    refine at_istore_n C1 (lv' := [(3, .int (0 : Int32)), (2, .ref (e_q E 30)), (1, .ref (e_q E 0)), (0, .ref b)]) dL_law_17 (by rw [hn]; decide) rfl ?_
    have z0 : (0 : Int32).toInt = 0 := by decide
    exact at_sub [3, 2, 1, 0] rfl (law_loop (b := b) (L := L) (xs := xs) hL C1 hn (by rw [hE]; exact hX) (by rw [hE]; exact hbl) (by rw [hE]; exact hnA b hbl) hR (L + 1) 0 ac_s0 (by omega) (by omega) (by omega) s0_ok)
  rw [hE] at K
  rw [e0, e30] at hl
  exact K H locs ls hP hD hS hl
