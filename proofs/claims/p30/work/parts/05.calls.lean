/-! Contracts over the pure state; a method's walk gives its contract; calls. -/
abbrev ac_UW (y : MethodName) (cy : ByteArray) (nl : Nat) (ret : Option FieldType) : List Cond := Cond.code y cy nl ret :: lw_good
abbrev ac_rm (h : Nat) : Room := { frames := h, cells := 0, slots := 0, locals := 64 * h }
def ac_WB (D : va_G) (q : Nat → Nat) (cI cZ : ClassId) (t : Nat) (A : Nat → Prop) (σ : SS) (U : State) : Prop :=
  va_P D vwCl (ac_wd q cI cZ σ) U.heap ∧ va_K D vwCl (ac_tys cI cZ) U ∧ va_D A (ac_wd q cI cZ σ) ∧ va_Z "AirClock" "SHUT" "[I" (.ref t) A U U.heap ∧ va_T .int t 18 (fun j => .int (ac_shut j)) A U U.heap ∧ ac_N U
def ac_as (q : Nat → Nat) (th : Option Nat) (As : List Value) : List Value := match th with
  | some b => .ref (q b) :: As
  | none => As
def ac_pre (D : va_G) (q : Nat → Nat) (cI cZ : ClassId) (t sz : Nat) (th : Option Nat) (As : List Value) (σ : SS) : Array Value → State → Prop :=
  va_Pc (ac_as q th As) (fun U => U.heap.size = sz ∧ ac_WB D q cI cZ t (va_A (ac_wd q cI cZ σ) sz) σ U)
def ConI (y : MethodName) (cy : ByteArray) (nl : Nat) (ret : Option FieldType) (h : Nat) (th : Option Nat) (As : List Value) (σ : SS) (post : Int32 → SS → Prop) : Prop :=
  ∀ (l : Launch) (D : va_G) (q : Nat → Nat) (cI cZ : ClassId) (t sz : Nat), Met l y (ac_UW y cy nl ret) (ac_rm h) (ac_pre D q cI cZ t sz th As σ) (va_Qi post (ac_WB D q cI cZ t (va_A (ac_wd q cI cZ σ) sz)) (va_A (ac_wd q cI cZ σ) sz)) 0 0 (va_A (ac_wd q cI cZ σ) sz)
def ConL (y : MethodName) (cy : ByteArray) (nl : Nat) (ret : Option FieldType) (h : Nat) (th : Option Nat) (As : List Value) (σ : SS) (post : Int64 → SS → Prop) : Prop :=
  ∀ (l : Launch) (D : va_G) (q : Nat → Nat) (cI cZ : ClassId) (t sz : Nat), Met l y (ac_UW y cy nl ret) (ac_rm h) (ac_pre D q cI cZ t sz th As σ) (va_Ql post (ac_WB D q cI cZ t (va_A (ac_wd q cI cZ σ) sz)) (va_A (ac_wd q cI cZ σ) sz)) 0 0 (va_A (ac_wd q cI cZ σ) sz)
def ConV (y : MethodName) (cy : ByteArray) (nl : Nat) (ret : Option FieldType) (h : Nat) (th : Option Nat) (As : List Value) (σ : SS) (post : SS → Prop) : Prop :=
  ∀ (l : Launch) (D : va_G) (q : Nat → Nat) (cI cZ : ClassId) (t sz : Nat), Met l y (ac_UW y cy nl ret) (ac_rm h) (ac_pre D q cI cZ t sz th As σ) (va_Qv post (ac_WB D q cI cZ t (va_A (ac_wd q cI cZ σ) sz)) (va_A (ac_wd q cI cZ σ) sz)) 0 0 (va_A (ac_wd q cI cZ σ) sz)
/-- how a method's walk may end -/
def IRet (E : EV) (cc : ByteArray) (post : Int32 → SS → Prop) : Prop := ∀ (pc : Nat) (lv : List (Nat × Value)) (σ : SS) (r : Int32), decode cc pc = .ok (.ireturn, 1) → post r σ → AT E pc lv [.int r] σ
def LRet (E : EV) (cc : ByteArray) (post : Int64 → SS → Prop) : Prop := ∀ (pc : Nat) (lv : List (Nat × Value)) (σ : SS) (r : Int64), decode cc pc = .ok (.lreturn, 1) → post r σ → AT E pc lv [.long r] σ
def VRet (E : EV) (cc : ByteArray) (post : SS → Prop) : Prop := ∀ (pc : Nat) (lv : List (Nat × Value)) (σ : SS), decode cc pc = .ok (.return_, 1) → post σ → AT E pc lv [] σ
theorem ac_pre_blind {D : va_G} {q : Nat → Nat} {cI cZ : ClassId} {t sz : Nat} {th : Option Nat} {As : List Value} {σ : SS} : FrameBlind (ac_pre D q cI cZ t sz th As σ) := by
  intro a U g mk hp
  obtain ⟨h1, h2, h3, h4, h5, h6, h7, h8⟩ := hp
  exact ⟨h1, h2, h3, va_K.moved (u := U) (U := U.calling g mk a) (Vm.Alike.refl U.vm) h4, h5, va_Z.moved (u := U) (U := U.calling g mk a) (Vm.Alike.refl U.vm) h6, va_T.moved (u := U) (U := U.calling g mk a) (Vm.Alike.refl U.vm) h7, ac_N.same (u := U) (U := U.calling g mk a) rfl h8⟩
section FromWalk
variable {y : MethodName} {cy : ByteArray} {nl h : Nat} {th : Option Nat} {As : List Value} {σ : SS}
theorem ac_open {ret : Option FieldType} {l : Launch} {D : va_G} {q : Nat → Nat} {cI cZ : ClassId} {t sz : Nat} {Qc : Array Value → State → Outcome → State → Prop} (hy : plainName y.cls = true) (hln : ∀ q, (lg_sl (ac_as q th As)).length ≤ nl)
    (core : ∀ E : EV, CX E cy y.cls h → e_n E = nl → e_q E = q → e_cI E = cI → e_cZ E = cZ → e_D E = D → e_sh E = t → e_A E = va_A (ac_wd q cI cZ σ) sz → (e_t E).sig.returnType = ret → e_kc E = 0 → e_ks E = 0 → e_Q E = MQ (e_b E) Qc (e_a E) (e_s E) 0 0 (va_A (ac_wd q cI cZ σ) sz) → AT E 0 (lv_args 0 (ac_as q th As)) [] σ) :
    Met l y (ac_UW y cy nl ret) (ac_rm h) (ac_pre D q cI cZ t sz th As σ) Qc 0 0 (va_A (ac_wd q cI cZ σ) sz) := by
  refine Met.ofW (cc := cy) (maxL := nl) (ret := ret) hy rfl ?_
  intro p e s m args below meth c s₁ B hml hv
  obtain ⟨rfl, hsz, hP, hK, hD, hZ, hT, hN⟩ := hv
  have hts := atoms_spec (ws := ac_UW y cy nl ret) B.pre
  have hl := lv_entry (ac_as q th As) (n := nl) (hln q)
  rw [lg_entry_eq]
  exact core ((p, l, e, ac_rm h, s), (m, (ac_as q th As).toArray, below, meth, c), (D, q, cI, cZ, t), (va_A (ac_wd q cI cZ σ) sz, MQ below Qc (ac_as q th As).toArray s 0 0 (va_A (ac_wd q cI cZ σ) sz), 0, 0, nl)) ⟨B.exec, B.bytes, hml, findClass_of_methodNamed B.named, ⟨fun w hw => hts w (List.mem_cons_of_mem _ hw), hN⟩, hK, fun x hx => Or.inr (by rw [← hsz]; exact hx), B.notSynchronized, hZ, hT, ⟨Nat.le_refl _, Nat.le_refl _⟩, Nat.le_refl _, Nat.le_refl _⟩ rfl rfl rfl rfl rfl rfl rfl B.returns rfl rfl rfl s.heap [] _ hP hD va_S.rf hl
theorem ac_close {E : EV} {q : Nat → Nat} {cI cZ : ClassId} {D : va_G} {t sz : Nat} {u σ0 : SS} {H : Heap} {locs : List Loc} {st : State} (C : CX E cy y.cls h) (e1 : e_q E = q) (e2 : e_cI E = cI) (e3 : e_cZ E = cZ) (e4 : e_D E = D) (e5 : e_sh E = t) (e6 : e_A E = va_A (ac_wd q cI cZ σ0) sz)
    (hP : va_P (e_D E) vwCl (ac_wd (e_q E) (e_cI E) (e_cZ E) u) H) (hD : va_D (e_A E) (ac_wd (e_q E) (e_cI E) (e_cZ E) u)) (hS : va_S (e_A E) (e_s E).heap H locs) (ht : st.heap = H) (hW : (e_s E).WarmedH st.vm) : ac_WB D q cI cZ t (va_A (ac_wd q cI cZ σ0) sz) u st := by
  subst e1; subst e2; subst e3; subst e4; subst e5; subst ht
  rw [← e6]
  exact ⟨hP, va_K.moved hW.alike C.K, hD, va_Z.moved hW.alike (C.Z.kept (fun a h1 h2 => hS.2.1 a h1 h2)), va_T.moved hW.alike (C.T.kept (fun a h1 h2 => hS.2.1 a h1 h2)), C.N.warm hW⟩
theorem conI_of {post : Int32 → SS → Prop} (hy : plainName y.cls = true) (hln : ∀ q, (lg_sl (ac_as q th As)).length ≤ nl) (core : ∀ E : EV, CX E cy y.cls h → e_n E = nl → IRet E cy post → AT E 0 (lv_args 0 (ac_as (e_q E) th As)) [] σ) : ConI y cy nl (some .int) h th As σ post := by
  intro l D q cI cZ t sz
  refine ac_open hy hln (fun E C en e1 e2 e3 e4 e5 e6 er ek es eQ => ?_)
  rw [← e1]
  refine core E C en (fun pc lv u r hd hp H locs ls hP hD hS hl => ?_)
  have w := W.iret (p := e_p E) (l := e_l E) (e := e_e E) (R := e_R E) (m := e_m E) (below := e_b E) (meth := e_t E) (c := e_c E) (H := H) (locs := locs) (cells := 0) (slots := 0) (s := e_s E) (args := e_a E) (Qc := va_Qi post (ac_WB D q cI cZ t (va_A (ac_wd q cI cZ σ) sz)) (va_A (ac_wd q cI cZ σ) sz)) (free := va_A (ac_wd q cI cZ σ) sz) (v := r) (ls := ls) C.exec C.byt er (fun st ht hW => ⟨⟨r, u, rfl, hp, ac_close C e1 e2 e3 e4 e5 e6 hP hD hS ht hW⟩, by rw [← e6]; exact hS.F ht⟩) (by rw [← e6]; exact hS.2.2) hd C.lck
  rw [ek, es, eQ]
  exact w
theorem conZ_of {post : Int32 → SS → Prop} (hy : plainName y.cls = true) (hln : ∀ q, (lg_sl (ac_as q th As)).length ≤ nl) (hz : ∀ r u, post r u → r = 0 ∨ r = 1) (core : ∀ E : EV, CX E cy y.cls h → e_n E = nl → IRet E cy post → AT E 0 (lv_args 0 (ac_as (e_q E) th As)) [] σ) : ConI y cy nl (some .boolean) h th As σ post := by
  intro l D q cI cZ t sz
  refine ac_open hy hln (fun E C en e1 e2 e3 e4 e5 e6 er ek es eQ => ?_)
  rw [← e1]
  refine core E C en (fun pc lv u r hd hp H locs ls hP hD hS hl => ?_)
  have w := W.zret (p := e_p E) (l := e_l E) (e := e_e E) (R := e_R E) (m := e_m E) (below := e_b E) (meth := e_t E) (c := e_c E) (H := H) (locs := locs) (cells := 0) (slots := 0) (s := e_s E) (args := e_a E) (Qc := va_Qi post (ac_WB D q cI cZ t (va_A (ac_wd q cI cZ σ) sz)) (va_A (ac_wd q cI cZ σ) sz)) (free := va_A (ac_wd q cI cZ σ) sz) (v := r) (ty := .boolean) (ls := ls) C.exec C.byt er (by rcases hz r u hp with e | e <;> rw [e] <;> rfl) (fun st ht hW => ⟨⟨r, u, rfl, hp, ac_close C e1 e2 e3 e4 e5 e6 hP hD hS ht hW⟩, by rw [← e6]; exact hS.F ht⟩) (by rw [← e6]; exact hS.2.2) hd C.lck
  rw [ek, es, eQ]
  exact w
theorem conL_of {post : Int64 → SS → Prop} (hy : plainName y.cls = true) (hln : ∀ q, (lg_sl (ac_as q th As)).length ≤ nl) (core : ∀ E : EV, CX E cy y.cls h → e_n E = nl → LRet E cy post → AT E 0 (lv_args 0 (ac_as (e_q E) th As)) [] σ) : ConL y cy nl (some .long) h th As σ post := by
  intro l D q cI cZ t sz
  refine ac_open hy hln (fun E C en e1 e2 e3 e4 e5 e6 er ek es eQ => ?_)
  rw [← e1]
  refine core E C en (fun pc lv u r hd hp H locs ls hP hD hS hl => ?_)
  have w := W.lret (p := e_p E) (l := e_l E) (e := e_e E) (R := e_R E) (m := e_m E) (below := e_b E) (meth := e_t E) (c := e_c E) (H := H) (locs := locs) (cells := 0) (slots := 0) (s := e_s E) (args := e_a E) (Qc := va_Ql post (ac_WB D q cI cZ t (va_A (ac_wd q cI cZ σ) sz)) (va_A (ac_wd q cI cZ σ) sz)) (free := va_A (ac_wd q cI cZ σ) sz) (v := r) (ls := ls) C.exec C.byt er (fun st ht hW => ⟨⟨r, u, rfl, hp, ac_close C e1 e2 e3 e4 e5 e6 hP hD hS ht hW⟩, by rw [← e6]; exact hS.F ht⟩) (by rw [← e6]; exact hS.2.2) hd C.lck
  rw [ek, es, eQ]
  exact w
theorem conV_of {post : SS → Prop} (hy : plainName y.cls = true) (hln : ∀ q, (lg_sl (ac_as q th As)).length ≤ nl) (core : ∀ E : EV, CX E cy y.cls h → e_n E = nl → VRet E cy post → AT E 0 (lv_args 0 (ac_as (e_q E) th As)) [] σ) : ConV y cy nl none h th As σ post := by
  intro l D q cI cZ t sz
  refine ac_open hy hln (fun E C en e1 e2 e3 e4 e5 e6 er ek es eQ => ?_)
  rw [← e1]
  refine core E C en (fun pc lv u hd hp H locs ls hP hD hS hl => ?_)
  have w := W.vret (p := e_p E) (l := e_l E) (e := e_e E) (R := e_R E) (m := e_m E) (below := e_b E) (meth := e_t E) (c := e_c E) (H := H) (locs := locs) (cells := 0) (slots := 0) (s := e_s E) (args := e_a E) (Qc := va_Qv post (ac_WB D q cI cZ t (va_A (ac_wd q cI cZ σ) sz)) (va_A (ac_wd q cI cZ σ) sz)) (free := va_A (ac_wd q cI cZ σ) sz) (ls := ls) C.exec C.byt er (fun st ht hW => ⟨⟨u, rfl, hp, ac_close C e1 e2 e3 e4 e5 e6 hP hD hS ht hW⟩, by rw [← e6]; exact hS.F ht⟩) (by rw [← e6]; exact hS.2.2) hd C.lck
  rw [ek, es, eQ]
  exact w
end FromWalk
section Calls
variable {E : EV} {cc : ByteArray} {own : String} {h pc : Nat} {lv : List (Nat × Value)} {st : List Value} {σ : SS}
variable {y : MethodName} {cy : ByteArray} {nl h2 n i : Nat} {ret : Option FieldType} {As : List Value}
def ac_MB (y : MethodName) (cy : ByteArray) (nl : Nat) (ret : Option FieldType) (n : Nat) : Prop := Cond.code y cy nl ret ∈ lw_good ∧ Cond.initialized y.cls ∈ lw_good ∧ (y.cls ≠ "java/lang/invoke/MethodHandle" ∧ y.cls ≠ "java/lang/invoke/VarHandle" ∧ (parseMethodDescriptor y.desc).map (fun d => d.parameters.length) = some n) ∧ nl ≤ 45
def ac_MV (y : MethodName) (cy : ByteArray) (nl : Nat) (ret : Option FieldType) (n : Nat) : Prop := ac_MB y cy nl ret n ∧ Cond.instanceMethod y ∈ lw_good ∧ Cond.selects y.cls y y ∈ lw_good
def ac_MS (y : MethodName) (cy : ByteArray) (nl : Nat) (ret : Option FieldType) (n : Nat) : Prop := ac_MB y cy nl ret n ∧ Cond.static y ∈ lw_good
theorem ac_UWin (hc : Cond.code y cy nl ret ∈ lw_good) : GoodIn lw_good (ac_UW y cy nl ret) := by
  intro w hw
  rcases List.mem_cons.mp hw with e | e
  · rw [e]; exact ⟨hc, lw_good_ok _ hc⟩
  · exact ⟨e, lw_good_ok _ e⟩
theorem ac_room (C : CX E cc own h) (hh : h2 < h) (hn : nl ≤ 45) : (ac_rm h2).frames + 1 ≤ (e_R E).frames ∧ 8 + (nl + 11) + (ac_rm h2).locals ≤ (e_R E).locals := by
  have h1 := C.R.1
  have h3 := C.R.2
  constructor
  · show h2 + 1 ≤ _
    omega
  · show 8 + (nl + 11) + 64 * h2 ≤ _
    omega
theorem ac_cb (C : CX E cc own h) (hm : ac_MB y cy nl ret n) (hw : Cond.methodLink own i y ∈ lw_good) (hh : h2 < h) : CallB (e_R E) (e_s E) (e_a E) own i y cy nl ret (ac_UW y cy nl ret) (ac_rm h2) 0 0 n :=
  callB_of n C.hts (ac_UWin hm.1) rfl rfl rfl (C.hts _ hm.2.1) (C.hts _ hw) hm.2.2.1 (ac_room C hh hm.2.2.2)
theorem ac_prein {D : va_G} {q : Nat → Nat} {cI cZ : ClassId} {t : Nat} {th : Option Nat} {s U : State} {A : Nat → Prop} {H : Heap} {locs : List Loc} (hK : va_K D vwCl (ac_tys cI cZ) s) (hZ : va_Z "AirClock" "SHUT" "[I" (.ref t) A s s.heap) (hT : va_T .int t 18 (fun j => .int (ac_shut j)) A s s.heap) (hN : ac_N s) (hA : ∀ x : Nat, s.heap.size ≤ x → A x) (hP : va_P D vwCl (ac_wd q cI cZ σ) H) (hD : va_D A (ac_wd q cI cZ σ)) (hS : va_S A s.heap H locs) (hU : U.heap = H) (hW : s.WarmedH U.vm) : ac_pre D q cI cZ t H.size th As σ (ac_as q th As).toArray U := by
  have hF : ∀ x, va_A (ac_wd q cI cZ σ) H.size x → A x := by
    intro x hx
    rcases hx with ⟨k, e, hk⟩ | hx
    · exact hD.2 k (x, e) hk
    · exact hA x (Nat.le_trans hS.1 hx)
  subst hU
  exact ⟨rfl, rfl, hP, va_K.moved hW.alike hK, hD.self, va_Z.moved hW.alike ((hZ.kept (fun a h1 h2 => hS.2.1 a h1 h2)).narrow hF), va_T.moved hW.alike ((hT.kept (fun a h1 h2 => hS.2.1 a h1 h2)).narrow hF), hN.warm hW⟩
theorem ac_backin {H H1 : Heap} {t' : State} {u : SS} {locs : List Loc} (C : CX E cc own h) (hD : va_D (e_A E) (ac_wd (e_q E) (e_cI E) (e_cZ E) σ)) (hS : va_S (e_A E) (e_s E).heap H locs) (ht : t'.heap = H1) (hB : ac_WB (e_D E) (e_q E) (e_cI E) (e_cZ E) (e_sh E) (va_A (ac_wd (e_q E) (e_cI E) (e_cZ E) σ) H.size) u t') : va_P (e_D E) vwCl (ac_wd (e_q E) (e_cI E) (e_cZ E) u) H1 ∧ va_D (e_A E) (ac_wd (e_q E) (e_cI E) (e_cZ E) u) := by
  obtain ⟨h1, -, h3, -⟩ := hB
  rw [ht] at h1
  refine ⟨h1, h3.weaken (fun k q _ hx => ?_)⟩
  rcases hx with ⟨k, e, hk⟩ | hx
  · exact hD.2 k (q.1, e) hk
  · exact C.A q.1 (Nat.le_trans hS.1 hx)
theorem ac_fr {H : Heap} {locs : List Loc} (C : CX E cc own h) (hD : va_D (e_A E) (ac_wd (e_q E) (e_cI E) (e_cZ E) σ)) (hS : va_S (e_A E) (e_s E).heap H locs) : ∀ x, va_A (ac_wd (e_q E) (e_cI E) (e_cZ E) σ) H.size x → e_A E x := by
  intro x hx
  rcases hx with ⟨k, e, hk⟩ | hx
  · exact hD.2 k (x, e) hk
  · exact C.A x (Nat.le_trans hS.1 hx)
theorem at_ci {post : Int32 → SS → Prop} {th : Option Nat} {st0 : List Value} (C : CX E cc own h) (hr : ∀ (H : Heap) (locs : List Loc) (ls : Array Slot), va_P (e_D E) vwCl (ac_wd (e_q E) (e_cI E) (e_cZ E) σ) H → va_D (e_A E) (ac_wd (e_q E) (e_cI E) (e_cZ E) σ) → va_S (e_A E) (e_s E).heap H locs → lv_has ls (e_n E) lv → va_Run (e_p E) (e_l E) (e_e E) (e_R E) (e_s E) (e_m E) (e_a E) (e_b E) (e_t E) (e_c E) H locs (e_kc E) (e_ks E) 0 0 (F0 (e_m E) pc ls st0) st (va_Qi post (ac_WB (e_D E) (e_q E) (e_cI E) (e_cZ E) (e_sh E) (va_A (ac_wd (e_q E) (e_cI E) (e_cZ E) σ) H.size)) (va_A (ac_wd (e_q E) (e_cI E) (e_cZ E) σ) H.size) (ac_as (e_q E) th As).toArray) (va_A (ac_wd (e_q E) (e_cI E) (e_cZ E) σ) H.size)) (k : ∀ (r : Int32) (σ' : SS), post r σ' → AT E (pc + 3) lv (.int r :: st) σ') : AT E pc lv st0 σ := by
  intro H locs ls hP hD hS hl
  refine va_calli (hr H locs ls hP hD hS hl) hS (fun x _ hx => ac_fr C hD hS x hx) (ac_fr C hD hS) (fun r u t H1 locs1 ht hvm hw hB hz1 hk1 hS1 => ?_)
  obtain ⟨hP1, hD1⟩ := ac_backin C hD hS ht hB
  exact k r u hw H1 locs1 ls hP1 hD1 hS1 hl
theorem at_cl {post : Int64 → SS → Prop} {th : Option Nat} {st0 : List Value} (C : CX E cc own h) (hr : ∀ (H : Heap) (locs : List Loc) (ls : Array Slot), va_P (e_D E) vwCl (ac_wd (e_q E) (e_cI E) (e_cZ E) σ) H → va_D (e_A E) (ac_wd (e_q E) (e_cI E) (e_cZ E) σ) → va_S (e_A E) (e_s E).heap H locs → lv_has ls (e_n E) lv → va_Run (e_p E) (e_l E) (e_e E) (e_R E) (e_s E) (e_m E) (e_a E) (e_b E) (e_t E) (e_c E) H locs (e_kc E) (e_ks E) 0 0 (F0 (e_m E) pc ls st0) st (va_Ql post (ac_WB (e_D E) (e_q E) (e_cI E) (e_cZ E) (e_sh E) (va_A (ac_wd (e_q E) (e_cI E) (e_cZ E) σ) H.size)) (va_A (ac_wd (e_q E) (e_cI E) (e_cZ E) σ) H.size) (ac_as (e_q E) th As).toArray) (va_A (ac_wd (e_q E) (e_cI E) (e_cZ E) σ) H.size)) (k : ∀ (r : Int64) (σ' : SS), post r σ' → AT E (pc + 3) lv (.long r :: st) σ') : AT E pc lv st0 σ := by
  intro H locs ls hP hD hS hl
  refine va_calll (hr H locs ls hP hD hS hl) hS (fun x _ hx => ac_fr C hD hS x hx) (ac_fr C hD hS) (fun r u t H1 locs1 ht hvm hw hB hz1 hk1 hS1 => ?_)
  obtain ⟨hP1, hD1⟩ := ac_backin C hD hS ht hB
  exact k r u hw H1 locs1 ls hP1 hD1 hS1 hl
theorem at_cv {post : SS → Prop} {th : Option Nat} {st0 : List Value} (C : CX E cc own h) (hr : ∀ (H : Heap) (locs : List Loc) (ls : Array Slot), va_P (e_D E) vwCl (ac_wd (e_q E) (e_cI E) (e_cZ E) σ) H → va_D (e_A E) (ac_wd (e_q E) (e_cI E) (e_cZ E) σ) → va_S (e_A E) (e_s E).heap H locs → lv_has ls (e_n E) lv → va_Run (e_p E) (e_l E) (e_e E) (e_R E) (e_s E) (e_m E) (e_a E) (e_b E) (e_t E) (e_c E) H locs (e_kc E) (e_ks E) 0 0 (F0 (e_m E) pc ls st0) st (va_Qv post (ac_WB (e_D E) (e_q E) (e_cI E) (e_cZ E) (e_sh E) (va_A (ac_wd (e_q E) (e_cI E) (e_cZ E) σ) H.size)) (va_A (ac_wd (e_q E) (e_cI E) (e_cZ E) σ) H.size) (ac_as (e_q E) th As).toArray) (va_A (ac_wd (e_q E) (e_cI E) (e_cZ E) σ) H.size)) (k : ∀ (σ' : SS), post σ' → AT E (pc + 3) lv st σ') : AT E pc lv st0 σ := by
  intro H locs ls hP hD hS hl
  refine va_callv (hr H locs ls hP hD hS hl) hS (fun x _ hx => ac_fr C hD hS x hx) (ac_fr C hD hS) (fun u t H1 locs1 ht hvm hw hB hz1 hk1 hS1 => ?_)
  obtain ⟨hP1, hD1⟩ := ac_backin C hD hS ht hB
  exact k u hw H1 locs1 ls hP1 hD1 hS1 hl
/-- the three ways to call, over any contract -/
theorem ac_rV {Qc : Array Value → State → Outcome → State → Prop} {b ci : Nat} {fs : List Value} {T : u_T} {N : Nat} {st0 : List Value} {H : Heap} {locs : List Loc} {ls : Array Slot} (C : CX E cc own h) (hM : Met (e_l E) y (ac_UW y cy nl ret) (ac_rm h2) (ac_pre (e_D E) (e_q E) (e_cI E) (e_cZ E) (e_sh E) H.size (some b) As σ) Qc 0 0 (va_A (ac_wd (e_q E) (e_cI E) (e_cZ E) σ) H.size)) (hm : ac_MV y cy nl ret n) (hw : Cond.methodLink own i y ∈ lw_good) (he : (ac_wd (e_q E) (e_cI E) (e_cZ E) σ)[b]? = some (e_q E b, .inr (ci, fs))) (hc : vwCl[ci]? = some (y.cls, T, N)) (hn : As.length = n) (hh : h2 < h) (hst : st0 = As.reverse ++ .ref (e_q E b) :: st) (hcat : (st.map fun v => v.category).sum ≤ 8) (hd : decode cc pc = .ok (.invokevirtual i, 3))
    (hP : va_P (e_D E) vwCl (ac_wd (e_q E) (e_cI E) (e_cZ E) σ) H) (hD : va_D (e_A E) (ac_wd (e_q E) (e_cI E) (e_cZ E) σ)) (hS : va_S (e_A E) (e_s E).heap H locs) (hl : lv_has ls (e_n E) lv) : va_Run (e_p E) (e_l E) (e_e E) (e_R E) (e_s E) (e_m E) (e_a E) (e_b E) (e_t E) (e_c E) H locs (e_kc E) (e_ks E) 0 0 (F0 (e_m E) pc ls st0) st (Qc (ac_as (e_q E) (some b) As).toArray) (va_A (ac_wd (e_q E) (e_cI E) (e_cZ E) σ) H.size) := by
  subst hst
  exact va_runV (As := As) (rest := st) (C := y.cls) ⟨C.exec, C.byt, C.mxl, C.ow, C.hts⟩ hM ⟨ac_cb C hm.1 hw hh, C.hts _ hm.2.1, C.hts _ hm.2.2⟩ ⟨ac_pre_blind, va_recv C.K hP hc he, fun U hU hW => ac_prein C.K C.Z C.T C.N C.A hP hD hS hU hW⟩ rfl hn hl.1 rfl (lv_room hcat) hd ⟨C.cs.1, C.cs.2⟩
theorem ac_rS {Qc : Array Value → State → Outcome → State → Prop} {st0 : List Value} {H : Heap} {locs : List Loc} {ls : Array Slot} (C : CX E cc own h) (hM : Met (e_l E) y (ac_UW y cy nl ret) (ac_rm h2) (ac_pre (e_D E) (e_q E) (e_cI E) (e_cZ E) (e_sh E) H.size none As σ) Qc 0 0 (va_A (ac_wd (e_q E) (e_cI E) (e_cZ E) σ) H.size)) (hm : ac_MS y cy nl ret n) (hw : Cond.methodLink own i y ∈ lw_good) (hn : As.length = n) (hh : h2 < h) (hst : st0 = As.reverse ++ st) (hcat : (st.map fun v => v.category).sum ≤ 8) (hd : decode cc pc = .ok (.invokestatic i, 3))
    (hP : va_P (e_D E) vwCl (ac_wd (e_q E) (e_cI E) (e_cZ E) σ) H) (hD : va_D (e_A E) (ac_wd (e_q E) (e_cI E) (e_cZ E) σ)) (hS : va_S (e_A E) (e_s E).heap H locs) (hl : lv_has ls (e_n E) lv) : va_Run (e_p E) (e_l E) (e_e E) (e_R E) (e_s E) (e_m E) (e_a E) (e_b E) (e_t E) (e_c E) H locs (e_kc E) (e_ks E) 0 0 (F0 (e_m E) pc ls st0) st (Qc (ac_as (e_q E) none As).toArray) (va_A (ac_wd (e_q E) (e_cI E) (e_cZ E) σ) H.size) := by
  subst hst
  exact va_runS (As := As) (rest := st) ⟨C.exec, C.byt, C.mxl, C.ow, C.hts⟩ hM ⟨ac_cb C hm.1 hw hh, C.hts _ hm.2⟩ ⟨ac_pre_blind, fun U hU hW => ac_prein (th := none) C.K C.Z C.T C.N C.A hP hD hS hU hW⟩ rfl hn hl.1 rfl (lv_room hcat) hd ⟨C.cs.1, C.cs.2⟩
theorem ac_rN {Qc : Array Value → State → Outcome → State → Prop} {host : String} {st0 : List Value} {H : Heap} {locs : List Loc} {ls : Array Slot} (C : CX E cc own h) (hM : Met (e_l E) y (ac_UW y cy nl ret) (ac_rm h2) (ac_pre (e_D E) (e_q E) (e_cI E) (e_cZ E) (e_sh E) H.size none As σ) Qc 0 0 (va_A (ac_wd (e_q E) (e_cI E) (e_cZ E) σ) H.size)) (hm : ac_MS y cy nl ret n) (hw : Cond.methodLinkNest own i y host ∈ lw_nest) (hn : As.length = n) (hh : h2 < h) (hst : st0 = As.reverse ++ st) (hcat : (st.map fun v => v.category).sum ≤ 8) (hd : decode cc pc = .ok (.invokestatic i, 3))
    (hP : va_P (e_D E) vwCl (ac_wd (e_q E) (e_cI E) (e_cZ E) σ) H) (hD : va_D (e_A E) (ac_wd (e_q E) (e_cI E) (e_cZ E) σ)) (hS : va_S (e_A E) (e_s E).heap H locs) (hl : lv_has ls (e_n E) lv) : va_Run (e_p E) (e_l E) (e_e E) (e_R E) (e_s E) (e_m E) (e_a E) (e_b E) (e_t E) (e_c E) H locs (e_kc E) (e_ks E) 0 0 (F0 (e_m E) pc ls st0) st (Qc (ac_as (e_q E) none As).toArray) (va_A (ac_wd (e_q E) (e_cI E) (e_cZ E) σ) H.size) := by
  subst hst
  exact va_runSN (As := As) (rest := st) (host := host) ⟨C.exec, C.byt, C.mxl, C.ow, C.hts⟩ hM ⟨va_cnB n C.hts (ac_UWin hm.1.1) rfl rfl rfl (C.N _ hw) (C.hts _ hm.1.2.1) hm.1.2.2.1 (ac_room C hh hm.1.2.2.2), C.hts _ hm.2, trivial⟩ ⟨ac_pre_blind, fun U hU hW => ac_prein (th := none) C.K C.Z C.T C.N C.A hP hD hS hU hW⟩ rfl hn hl.1 rfl (lv_room hcat) hd ⟨C.cs.1, C.cs.2⟩
theorem at_Vi {post : Int32 → SS → Prop} {b ci : Nat} {fs : List Value} {T : u_T} {N : Nat} {st0 : List Value} (C : CX E cc own h) (hc : ConI y cy nl ret h2 (some b) As σ post) (hm : ac_MV y cy nl ret n) (hw : Cond.methodLink own i y ∈ lw_good) (he : (ac_wd (e_q E) (e_cI E) (e_cZ E) σ)[b]? = some (e_q E b, .inr (ci, fs))) (hcl : vwCl[ci]? = some (y.cls, T, N)) (hn : As.length = n) (hh : h2 < h) (hst : st0 = As.reverse ++ .ref (e_q E b) :: st) (hcat : (st.map fun v => v.category).sum ≤ 8) (hd : decode cc pc = .ok (.invokevirtual i, 3)) (k : ∀ (r : Int32) (σ' : SS), post r σ' → AT E (pc + 3) lv (.int r :: st) σ') : AT E pc lv st0 σ :=
  at_ci (th := some b) (As := As) C (fun H locs ls hP hD hS hl => ac_rV C (hc _ _ _ _ _ _ _) hm hw he hcl hn hh hst hcat hd hP hD hS hl) k
theorem at_Vl {post : Int64 → SS → Prop} {b ci : Nat} {fs : List Value} {T : u_T} {N : Nat} {st0 : List Value} (C : CX E cc own h) (hc : ConL y cy nl ret h2 (some b) As σ post) (hm : ac_MV y cy nl ret n) (hw : Cond.methodLink own i y ∈ lw_good) (he : (ac_wd (e_q E) (e_cI E) (e_cZ E) σ)[b]? = some (e_q E b, .inr (ci, fs))) (hcl : vwCl[ci]? = some (y.cls, T, N)) (hn : As.length = n) (hh : h2 < h) (hst : st0 = As.reverse ++ .ref (e_q E b) :: st) (hcat : (st.map fun v => v.category).sum ≤ 8) (hd : decode cc pc = .ok (.invokevirtual i, 3)) (k : ∀ (r : Int64) (σ' : SS), post r σ' → AT E (pc + 3) lv (.long r :: st) σ') : AT E pc lv st0 σ :=
  at_cl (th := some b) (As := As) C (fun H locs ls hP hD hS hl => ac_rV C (hc _ _ _ _ _ _ _) hm hw he hcl hn hh hst hcat hd hP hD hS hl) k
theorem at_Vv {post : SS → Prop} {b ci : Nat} {fs : List Value} {T : u_T} {N : Nat} {st0 : List Value} (C : CX E cc own h) (hc : ConV y cy nl ret h2 (some b) As σ post) (hm : ac_MV y cy nl ret n) (hw : Cond.methodLink own i y ∈ lw_good) (he : (ac_wd (e_q E) (e_cI E) (e_cZ E) σ)[b]? = some (e_q E b, .inr (ci, fs))) (hcl : vwCl[ci]? = some (y.cls, T, N)) (hn : As.length = n) (hh : h2 < h) (hst : st0 = As.reverse ++ .ref (e_q E b) :: st) (hcat : (st.map fun v => v.category).sum ≤ 8) (hd : decode cc pc = .ok (.invokevirtual i, 3)) (k : ∀ (σ' : SS), post σ' → AT E (pc + 3) lv st σ') : AT E pc lv st0 σ :=
  at_cv (th := some b) (As := As) C (fun H locs ls hP hD hS hl => ac_rV C (hc _ _ _ _ _ _ _) hm hw he hcl hn hh hst hcat hd hP hD hS hl) k
theorem at_Si {post : Int32 → SS → Prop} {st0 : List Value} (C : CX E cc own h) (hc : ConI y cy nl ret h2 none As σ post) (hm : ac_MS y cy nl ret n) (hw : Cond.methodLink own i y ∈ lw_good) (hn : As.length = n) (hh : h2 < h) (hst : st0 = As.reverse ++ st) (hcat : (st.map fun v => v.category).sum ≤ 8) (hd : decode cc pc = .ok (.invokestatic i, 3)) (k : ∀ (r : Int32) (σ' : SS), post r σ' → AT E (pc + 3) lv (.int r :: st) σ') : AT E pc lv st0 σ :=
  at_ci (th := none) (As := As) C (fun H locs ls hP hD hS hl => ac_rS C (hc _ _ _ _ _ _ _) hm hw hn hh hst hcat hd hP hD hS hl) k
theorem at_Sl {post : Int64 → SS → Prop} {st0 : List Value} (C : CX E cc own h) (hc : ConL y cy nl ret h2 none As σ post) (hm : ac_MS y cy nl ret n) (hw : Cond.methodLink own i y ∈ lw_good) (hn : As.length = n) (hh : h2 < h) (hst : st0 = As.reverse ++ st) (hcat : (st.map fun v => v.category).sum ≤ 8) (hd : decode cc pc = .ok (.invokestatic i, 3)) (k : ∀ (r : Int64) (σ' : SS), post r σ' → AT E (pc + 3) lv (.long r :: st) σ') : AT E pc lv st0 σ :=
  at_cl (th := none) (As := As) C (fun H locs ls hP hD hS hl => ac_rS C (hc _ _ _ _ _ _ _) hm hw hn hh hst hcat hd hP hD hS hl) k
theorem at_Ni {post : Int32 → SS → Prop} {host : String} {st0 : List Value} (C : CX E cc own h) (hc : ConI y cy nl ret h2 none As σ post) (hm : ac_MS y cy nl ret n) (hw : Cond.methodLinkNest own i y host ∈ lw_nest) (hn : As.length = n) (hh : h2 < h) (hst : st0 = As.reverse ++ st) (hcat : (st.map fun v => v.category).sum ≤ 8) (hd : decode cc pc = .ok (.invokestatic i, 3)) (k : ∀ (r : Int32) (σ' : SS), post r σ' → AT E (pc + 3) lv (.int r :: st) σ') : AT E pc lv st0 σ :=
  at_ci (th := none) (As := As) C (fun H locs ls hP hD hS hl => ac_rN C (hc _ _ _ _ _ _ _) hm hw hn hh hst hcat hd hP hD hS hl) k
end Calls
