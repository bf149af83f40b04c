/-! Words that hold wherever the tables do, and those of nest mates; contracts; calls; fields and rows. -/
def lw_good : List Cond := lw_tbl.filter goodWord
theorem lw_good_ok : ∀ w ∈ lw_good, (w.onTables && w.keeps) = true ∨ ∃ ty, w = .arrayClass ty := fun w h => good_of_word (List.mem_filter.mp h).2
theorem lw_in {w : Cond} (i : Nat) (h : lw_tbl[i]? = some w) (g : goodWord w = true) : w ∈ lw_good := List.mem_filter.mpr ⟨List.mem_of_getElem? h, g⟩
theorem lw_tt {w : Cond} (h : w ∈ tables_1) (g : goodWord w = true) : w ∈ lw_good := List.mem_filter.mpr ⟨List.mem_append_right _ h, g⟩
theorem lw_t1 {w : Cond} (i : Nat) (h : tables_1_1[i]? = some w) (g : goodWord w = true) : w ∈ lw_good := lw_tt (List.mem_append_left _ (List.mem_of_getElem? h)) g
theorem lw_t2 {w : Cond} (i : Nat) (h : tables_1_2[i]? = some w) (g : goodWord w = true) : w ∈ lw_good := lw_tt (List.mem_append_right _ (List.mem_append_left _ (List.mem_of_getElem? h))) g
theorem lw_t3 {w : Cond} (i : Nat) (h : tables_1_3[i]? = some w) (g : goodWord w = true) : w ∈ lw_good := lw_tt (List.mem_append_right _ (List.mem_append_right _ (List.mem_append_left _ (List.mem_of_getElem? h)))) g
theorem lw_t4 {w : Cond} (i : Nat) (h : tables_1_4[i]? = some w) (g : goodWord w = true) : w ∈ lw_good := lw_tt (List.mem_append_right _ (List.mem_append_right _ (List.mem_append_right _ (List.mem_append_left _ (List.mem_of_getElem? h))))) g
theorem lw_t5 {w : Cond} (i : Nat) (h : tables_1_5[i]? = some w) (g : goodWord w = true) : w ∈ lw_good := lw_tt (List.mem_append_right _ (List.mem_append_right _ (List.mem_append_right _ (List.mem_append_right _ (List.mem_of_getElem? h))))) g
theorem lw_goodIn : GoodIn lw_good lw_good := fun w h => ⟨h, lw_good_ok w h⟩
def lw_isNest : Cond → Bool
  | .methodLinkNest .. => true
  | .fieldLinkNest .. => true
  | _ => false
def lw_nest : List Cond := lw_tbl.filter lw_isNest
theorem lw_nin {w : Cond} (i : Nat) (h : lw_tbl[i]? = some w) (g : lw_isNest w = true) : w ∈ lw_nest := List.mem_filter.mpr ⟨List.mem_of_getElem? h, g⟩
def ac_N (U : State) : Prop := ∀ w ∈ lw_nest, va_Nw w U
theorem ac_N.warm {s U : State} (hW : s.WarmedH U.vm) (h : ac_N s) : ac_N U := by
  intro w hw
  have h1 := h w hw
  have h2 := (List.mem_filter.mp hw).2
  cases w <;> first | exact va_Nw.warmM hW h1 | exact va_Nw.warmF hW h1 | exact absurd (show false = true from h2) Bool.false_ne_true
theorem ac_N.same {u U : State} (hvm : u.vm = U.vm) (h : ac_N u) : ac_N U := by
  intro w hw
  have h1 := h w hw
  have h2 := (List.mem_filter.mp hw).2
  cases w <;> first | exact absurd (show false = true from h2) Bool.false_ne_true | exact va_Nw.same rfl hvm h1
theorem ac_N.use {U : State} (h : ac_N U) {A : Array Value} : ∀ w ∈ lw_nest, w.before A U = true := by
  intro w hw
  have h1 := h w hw
  have h2 := (List.mem_filter.mp hw).2
  cases w <;> first | exact absurd (show false = true from h2) Bool.false_ne_true | exact va_Nw.use rfl h1
