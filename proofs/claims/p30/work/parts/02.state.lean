/-! The pure state: ints by number, rows by cell, one long; the world of the 52 cells made of it. -/
abbrev SS : Type := (Nat → Int32) × ((Nat → Nat → Int32) × Int64)
def ac_gi (σ : SS) (k : Nat) : Int32 := σ.1 k
def ac_ga (σ : SS) (c : Nat) : Nat → Int32 := σ.2.1 c
def ac_gl (σ : SS) : Int64 := σ.2.2
def ac_si (σ : SS) (k : Nat) (v : Int32) : SS := (fun j => if j = k then v else σ.1 j, σ.2)
def ac_sa (σ : SS) (c : Nat) (f : Nat → Int32) : SS := (σ.1, (fun d => if d = c then f else σ.2.1 d, σ.2.2))
def ac_sl (σ : SS) (v : Int64) : SS := (σ.1, (σ.2.1, v))
theorem ac_gi_si (σ : SS) (k : Nat) (v : Int32) (j : Nat) : ac_gi (ac_si σ k v) j = if j = k then v else ac_gi σ j := rfl
theorem ac_gi_sa (σ : SS) (c : Nat) (f : Nat → Int32) (j : Nat) : ac_gi (ac_sa σ c f) j = ac_gi σ j := rfl
theorem ac_gi_sl (σ : SS) (v : Int64) (j : Nat) : ac_gi (ac_sl σ v) j = ac_gi σ j := rfl
theorem ac_ga_si (σ : SS) (k : Nat) (v : Int32) (c : Nat) : ac_ga (ac_si σ k v) c = ac_ga σ c := rfl
theorem ac_ga_sa (σ : SS) (c : Nat) (f : Nat → Int32) (d : Nat) : ac_ga (ac_sa σ c f) d = if d = c then f else ac_ga σ d := rfl
theorem ac_ga_sl (σ : SS) (v : Int64) (c : Nat) : ac_ga (ac_sl σ v) c = ac_ga σ c := rfl
def ac_wd (q : Nat → Nat) (cI cZ : ClassId) (σ : SS) : va_W := [
  (q 0, .inr (6, [.ref (q 1), .ref (q 2), .ref (q 3), .ref (q 4), .ref (q 5), .ref (q 6), .ref (q 7)])),
  (q 1, .inr (0, [.int (ac_gi σ 0), .int (ac_gi σ 1), .int (ac_gi σ 2), .int (ac_gi σ 3), .ref (q 8), .ref (q 9)])),
  (q 2, .inr (4, [.int (ac_gi σ 10), .ref (q 1), .int (ac_gi σ 11), .ref (q 10), .ref (q 11), .ref (q 12), .ref (q 13)])),
  (q 3, .inr (3, [.ref (q 1), .ref (q 14), .ref (q 15), .ref (q 16)])),
  (q 4, .inr (1, [.int (ac_gi σ 4), .int (ac_gi σ 5), .int (ac_gi σ 6), .ref (q 17), .ref (q 18), .ref (q 19), .ref (q 20), .ref (q 1), .ref (q 2), .int (ac_gi σ 7), .int (ac_gi σ 8), .int (ac_gi σ 9)])),
  (q 5, .inr (5, [.int (ac_gi σ 12), .int (ac_gi σ 13), .ref (q 21), .ref (q 22), .ref (q 23), .ref (q 24), .ref (q 25), .ref (q 26), .int (ac_gi σ 14)])),
  (q 6, .inr (2, [.ref (q 27), .ref (q 28), .ref (q 1), .ref (q 29)])),
  (q 7, .inl (cI, 16, .inl (ac_ga σ 7))),
  (q 8, .inl (cI, 10, .inl (ac_ga σ 8))),
  (q 9, .inl (cI, 100, .inl (ac_ga σ 9))),
  (q 10, .inl (cI, 10, .inl (ac_ga σ 10))),
  (q 11, .inl (cI, 10, .inl (ac_ga σ 11))),
  (q 12, .inl (cI, 10, .inl (ac_ga σ 12))),
  (q 13, .inl (cI, 1024, .inl (ac_ga σ 13))),
  (q 14, .inl (cI, 10, .inl (ac_ga σ 14))),
  (q 15, .inl (cI, 10, .inl (ac_ga σ 15))),
  (q 16, .inl (cI, 110, .inl (ac_ga σ 16))),
  (q 17, .inl (cI, 10, .inl (ac_ga σ 17))),
  (q 18, .inl (cI, 10, .inl (ac_ga σ 18))),
  (q 19, .inl (cI, 10, .inl (ac_ga σ 19))),
  (q 20, .inl (cI, 10, .inl (ac_ga σ 20))),
  (q 21, .inl (cI, 24, .inl (ac_ga σ 21))),
  (q 22, .inl (cI, 24, .inl (ac_ga σ 22))),
  (q 23, .inl (cI, 24, .inl (ac_ga σ 23))),
  (q 24, .inl (cI, 6, .inl (ac_ga σ 24))),
  (q 25, .inl (cI, 6, .inl (ac_ga σ 25))),
  (q 26, .inl (cI, 4096, .inl (ac_ga σ 26))),
  (q 27, .inl (cI, 10, .inl (ac_ga σ 27))),
  (q 28, .inl (cI, 10, .inl (ac_ga σ 28))),
  (q 29, .inl (cI, 1024, .inl (ac_ga σ 29))),
  (q 30, .inr (7, [.int (ac_gi σ 15), .int (ac_gi σ 16), .int (ac_gi σ 17), .ref (q 31), .ref (q 32), .ref (q 33), .ref (q 34), .int (ac_gi σ 18), .int (ac_gi σ 19), .ref (q 35), .ref (q 36), .ref (q 37), .ref (q 38), .int (ac_gi σ 20), .int (ac_gi σ 21), .int (ac_gi σ 22), .int (ac_gi σ 23), .int (ac_gi σ 24), .ref (q 39), .ref (q 40), .int (ac_gi σ 25), .ref (q 41), .int (ac_gi σ 26), .ref (q 42), .ref (q 43), .ref (q 44), .ref (q 45), .ref (q 46), .int (ac_gi σ 27), .ref (q 47), .ref (q 48), .ref (q 49), .ref (q 50), .ref (q 51), .long (ac_gl σ)])),
  (q 31, .inl (cI, 100, .inl (ac_ga σ 31))),
  (q 32, .inl (cI, 10, .inl (ac_ga σ 32))),
  (q 33, .inl (cI, 10, .inl (ac_ga σ 33))),
  (q 34, .inl (cI, 10, .inl (ac_ga σ 34))),
  (q 35, .inl (cZ, 1024, .inl (ac_ga σ 35))),
  (q 36, .inl (cZ, 10, .inl (ac_ga σ 36))),
  (q 37, .inl (cI, 10, .inl (ac_ga σ 37))),
  (q 38, .inl (cI, 10, .inl (ac_ga σ 38))),
  (q 39, .inl (cI, 10, .inl (ac_ga σ 39))),
  (q 40, .inl (cI, 10, .inl (ac_ga σ 40))),
  (q 41, .inl (cI, 6, .inl (ac_ga σ 41))),
  (q 42, .inl (cI, 24, .inl (ac_ga σ 42))),
  (q 43, .inl (cI, 24, .inl (ac_ga σ 43))),
  (q 44, .inl (cI, 24, .inl (ac_ga σ 44))),
  (q 45, .inl (cI, 6, .inl (ac_ga σ 45))),
  (q 46, .inl (cI, 6, .inl (ac_ga σ 46))),
  (q 47, .inl (cI, 448, .inl (ac_ga σ 47))),
  (q 48, .inl (cI, 10, .inl (ac_ga σ 48))),
  (q 49, .inl (cI, 10, .inl (ac_ga σ 49))),
  (q 50, .inl (cI, 1024, .inl (ac_ga σ 50))),
  (q 51, .inl (cI, 16, .inl (ac_ga σ 51)))]
theorem ac_put_0 (q : Nat → Nat) (cI cZ : ClassId) (σ : SS) (v : Int32) : (ac_wd q cI cZ σ).set 1 (q 1, .inr (0, ([.int (ac_gi σ 0), .int (ac_gi σ 1), .int (ac_gi σ 2), .int (ac_gi σ 3), .ref (q 8), .ref (q 9)]).set 0 (.int v))) = ac_wd q cI cZ (ac_si σ 0 v) := rfl
theorem ac_put_1 (q : Nat → Nat) (cI cZ : ClassId) (σ : SS) (v : Int32) : (ac_wd q cI cZ σ).set 1 (q 1, .inr (0, ([.int (ac_gi σ 0), .int (ac_gi σ 1), .int (ac_gi σ 2), .int (ac_gi σ 3), .ref (q 8), .ref (q 9)]).set 1 (.int v))) = ac_wd q cI cZ (ac_si σ 1 v) := rfl
theorem ac_put_2 (q : Nat → Nat) (cI cZ : ClassId) (σ : SS) (v : Int32) : (ac_wd q cI cZ σ).set 1 (q 1, .inr (0, ([.int (ac_gi σ 0), .int (ac_gi σ 1), .int (ac_gi σ 2), .int (ac_gi σ 3), .ref (q 8), .ref (q 9)]).set 2 (.int v))) = ac_wd q cI cZ (ac_si σ 2 v) := rfl
theorem ac_put_3 (q : Nat → Nat) (cI cZ : ClassId) (σ : SS) (v : Int32) : (ac_wd q cI cZ σ).set 1 (q 1, .inr (0, ([.int (ac_gi σ 0), .int (ac_gi σ 1), .int (ac_gi σ 2), .int (ac_gi σ 3), .ref (q 8), .ref (q 9)]).set 3 (.int v))) = ac_wd q cI cZ (ac_si σ 3 v) := rfl
theorem ac_put_4 (q : Nat → Nat) (cI cZ : ClassId) (σ : SS) (v : Int32) : (ac_wd q cI cZ σ).set 4 (q 4, .inr (1, ([.int (ac_gi σ 4), .int (ac_gi σ 5), .int (ac_gi σ 6), .ref (q 17), .ref (q 18), .ref (q 19), .ref (q 20), .ref (q 1), .ref (q 2), .int (ac_gi σ 7), .int (ac_gi σ 8), .int (ac_gi σ 9)]).set 0 (.int v))) = ac_wd q cI cZ (ac_si σ 4 v) := rfl
theorem ac_put_5 (q : Nat → Nat) (cI cZ : ClassId) (σ : SS) (v : Int32) : (ac_wd q cI cZ σ).set 4 (q 4, .inr (1, ([.int (ac_gi σ 4), .int (ac_gi σ 5), .int (ac_gi σ 6), .ref (q 17), .ref (q 18), .ref (q 19), .ref (q 20), .ref (q 1), .ref (q 2), .int (ac_gi σ 7), .int (ac_gi σ 8), .int (ac_gi σ 9)]).set 1 (.int v))) = ac_wd q cI cZ (ac_si σ 5 v) := rfl
theorem ac_put_6 (q : Nat → Nat) (cI cZ : ClassId) (σ : SS) (v : Int32) : (ac_wd q cI cZ σ).set 4 (q 4, .inr (1, ([.int (ac_gi σ 4), .int (ac_gi σ 5), .int (ac_gi σ 6), .ref (q 17), .ref (q 18), .ref (q 19), .ref (q 20), .ref (q 1), .ref (q 2), .int (ac_gi σ 7), .int (ac_gi σ 8), .int (ac_gi σ 9)]).set 2 (.int v))) = ac_wd q cI cZ (ac_si σ 6 v) := rfl
theorem ac_put_7 (q : Nat → Nat) (cI cZ : ClassId) (σ : SS) (v : Int32) : (ac_wd q cI cZ σ).set 4 (q 4, .inr (1, ([.int (ac_gi σ 4), .int (ac_gi σ 5), .int (ac_gi σ 6), .ref (q 17), .ref (q 18), .ref (q 19), .ref (q 20), .ref (q 1), .ref (q 2), .int (ac_gi σ 7), .int (ac_gi σ 8), .int (ac_gi σ 9)]).set 9 (.int v))) = ac_wd q cI cZ (ac_si σ 7 v) := rfl
theorem ac_put_8 (q : Nat → Nat) (cI cZ : ClassId) (σ : SS) (v : Int32) : (ac_wd q cI cZ σ).set 4 (q 4, .inr (1, ([.int (ac_gi σ 4), .int (ac_gi σ 5), .int (ac_gi σ 6), .ref (q 17), .ref (q 18), .ref (q 19), .ref (q 20), .ref (q 1), .ref (q 2), .int (ac_gi σ 7), .int (ac_gi σ 8), .int (ac_gi σ 9)]).set 10 (.int v))) = ac_wd q cI cZ (ac_si σ 8 v) := rfl
theorem ac_put_9 (q : Nat → Nat) (cI cZ : ClassId) (σ : SS) (v : Int32) : (ac_wd q cI cZ σ).set 4 (q 4, .inr (1, ([.int (ac_gi σ 4), .int (ac_gi σ 5), .int (ac_gi σ 6), .ref (q 17), .ref (q 18), .ref (q 19), .ref (q 20), .ref (q 1), .ref (q 2), .int (ac_gi σ 7), .int (ac_gi σ 8), .int (ac_gi σ 9)]).set 11 (.int v))) = ac_wd q cI cZ (ac_si σ 9 v) := rfl
theorem ac_put_10 (q : Nat → Nat) (cI cZ : ClassId) (σ : SS) (v : Int32) : (ac_wd q cI cZ σ).set 2 (q 2, .inr (4, ([.int (ac_gi σ 10), .ref (q 1), .int (ac_gi σ 11), .ref (q 10), .ref (q 11), .ref (q 12), .ref (q 13)]).set 0 (.int v))) = ac_wd q cI cZ (ac_si σ 10 v) := rfl
theorem ac_put_11 (q : Nat → Nat) (cI cZ : ClassId) (σ : SS) (v : Int32) : (ac_wd q cI cZ σ).set 2 (q 2, .inr (4, ([.int (ac_gi σ 10), .ref (q 1), .int (ac_gi σ 11), .ref (q 10), .ref (q 11), .ref (q 12), .ref (q 13)]).set 2 (.int v))) = ac_wd q cI cZ (ac_si σ 11 v) := rfl
theorem ac_put_12 (q : Nat → Nat) (cI cZ : ClassId) (σ : SS) (v : Int32) : (ac_wd q cI cZ σ).set 5 (q 5, .inr (5, ([.int (ac_gi σ 12), .int (ac_gi σ 13), .ref (q 21), .ref (q 22), .ref (q 23), .ref (q 24), .ref (q 25), .ref (q 26), .int (ac_gi σ 14)]).set 0 (.int v))) = ac_wd q cI cZ (ac_si σ 12 v) := rfl
theorem ac_put_13 (q : Nat → Nat) (cI cZ : ClassId) (σ : SS) (v : Int32) : (ac_wd q cI cZ σ).set 5 (q 5, .inr (5, ([.int (ac_gi σ 12), .int (ac_gi σ 13), .ref (q 21), .ref (q 22), .ref (q 23), .ref (q 24), .ref (q 25), .ref (q 26), .int (ac_gi σ 14)]).set 1 (.int v))) = ac_wd q cI cZ (ac_si σ 13 v) := rfl
theorem ac_put_14 (q : Nat → Nat) (cI cZ : ClassId) (σ : SS) (v : Int32) : (ac_wd q cI cZ σ).set 5 (q 5, .inr (5, ([.int (ac_gi σ 12), .int (ac_gi σ 13), .ref (q 21), .ref (q 22), .ref (q 23), .ref (q 24), .ref (q 25), .ref (q 26), .int (ac_gi σ 14)]).set 8 (.int v))) = ac_wd q cI cZ (ac_si σ 14 v) := rfl
theorem ac_put_15 (q : Nat → Nat) (cI cZ : ClassId) (σ : SS) (v : Int32) : (ac_wd q cI cZ σ).set 30 (q 30, .inr (7, ([.int (ac_gi σ 15), .int (ac_gi σ 16), .int (ac_gi σ 17), .ref (q 31), .ref (q 32), .ref (q 33), .ref (q 34), .int (ac_gi σ 18), .int (ac_gi σ 19), .ref (q 35), .ref (q 36), .ref (q 37), .ref (q 38), .int (ac_gi σ 20), .int (ac_gi σ 21), .int (ac_gi σ 22), .int (ac_gi σ 23), .int (ac_gi σ 24), .ref (q 39), .ref (q 40), .int (ac_gi σ 25), .ref (q 41), .int (ac_gi σ 26), .ref (q 42), .ref (q 43), .ref (q 44), .ref (q 45), .ref (q 46), .int (ac_gi σ 27), .ref (q 47), .ref (q 48), .ref (q 49), .ref (q 50), .ref (q 51), .long (ac_gl σ)]).set 0 (.int v))) = ac_wd q cI cZ (ac_si σ 15 v) := rfl
theorem ac_put_16 (q : Nat → Nat) (cI cZ : ClassId) (σ : SS) (v : Int32) : (ac_wd q cI cZ σ).set 30 (q 30, .inr (7, ([.int (ac_gi σ 15), .int (ac_gi σ 16), .int (ac_gi σ 17), .ref (q 31), .ref (q 32), .ref (q 33), .ref (q 34), .int (ac_gi σ 18), .int (ac_gi σ 19), .ref (q 35), .ref (q 36), .ref (q 37), .ref (q 38), .int (ac_gi σ 20), .int (ac_gi σ 21), .int (ac_gi σ 22), .int (ac_gi σ 23), .int (ac_gi σ 24), .ref (q 39), .ref (q 40), .int (ac_gi σ 25), .ref (q 41), .int (ac_gi σ 26), .ref (q 42), .ref (q 43), .ref (q 44), .ref (q 45), .ref (q 46), .int (ac_gi σ 27), .ref (q 47), .ref (q 48), .ref (q 49), .ref (q 50), .ref (q 51), .long (ac_gl σ)]).set 1 (.int v))) = ac_wd q cI cZ (ac_si σ 16 v) := rfl
theorem ac_put_17 (q : Nat → Nat) (cI cZ : ClassId) (σ : SS) (v : Int32) : (ac_wd q cI cZ σ).set 30 (q 30, .inr (7, ([.int (ac_gi σ 15), .int (ac_gi σ 16), .int (ac_gi σ 17), .ref (q 31), .ref (q 32), .ref (q 33), .ref (q 34), .int (ac_gi σ 18), .int (ac_gi σ 19), .ref (q 35), .ref (q 36), .ref (q 37), .ref (q 38), .int (ac_gi σ 20), .int (ac_gi σ 21), .int (ac_gi σ 22), .int (ac_gi σ 23), .int (ac_gi σ 24), .ref (q 39), .ref (q 40), .int (ac_gi σ 25), .ref (q 41), .int (ac_gi σ 26), .ref (q 42), .ref (q 43), .ref (q 44), .ref (q 45), .ref (q 46), .int (ac_gi σ 27), .ref (q 47), .ref (q 48), .ref (q 49), .ref (q 50), .ref (q 51), .long (ac_gl σ)]).set 2 (.int v))) = ac_wd q cI cZ (ac_si σ 17 v) := rfl
theorem ac_put_18 (q : Nat → Nat) (cI cZ : ClassId) (σ : SS) (v : Int32) : (ac_wd q cI cZ σ).set 30 (q 30, .inr (7, ([.int (ac_gi σ 15), .int (ac_gi σ 16), .int (ac_gi σ 17), .ref (q 31), .ref (q 32), .ref (q 33), .ref (q 34), .int (ac_gi σ 18), .int (ac_gi σ 19), .ref (q 35), .ref (q 36), .ref (q 37), .ref (q 38), .int (ac_gi σ 20), .int (ac_gi σ 21), .int (ac_gi σ 22), .int (ac_gi σ 23), .int (ac_gi σ 24), .ref (q 39), .ref (q 40), .int (ac_gi σ 25), .ref (q 41), .int (ac_gi σ 26), .ref (q 42), .ref (q 43), .ref (q 44), .ref (q 45), .ref (q 46), .int (ac_gi σ 27), .ref (q 47), .ref (q 48), .ref (q 49), .ref (q 50), .ref (q 51), .long (ac_gl σ)]).set 7 (.int v))) = ac_wd q cI cZ (ac_si σ 18 v) := rfl
theorem ac_put_19 (q : Nat → Nat) (cI cZ : ClassId) (σ : SS) (v : Int32) : (ac_wd q cI cZ σ).set 30 (q 30, .inr (7, ([.int (ac_gi σ 15), .int (ac_gi σ 16), .int (ac_gi σ 17), .ref (q 31), .ref (q 32), .ref (q 33), .ref (q 34), .int (ac_gi σ 18), .int (ac_gi σ 19), .ref (q 35), .ref (q 36), .ref (q 37), .ref (q 38), .int (ac_gi σ 20), .int (ac_gi σ 21), .int (ac_gi σ 22), .int (ac_gi σ 23), .int (ac_gi σ 24), .ref (q 39), .ref (q 40), .int (ac_gi σ 25), .ref (q 41), .int (ac_gi σ 26), .ref (q 42), .ref (q 43), .ref (q 44), .ref (q 45), .ref (q 46), .int (ac_gi σ 27), .ref (q 47), .ref (q 48), .ref (q 49), .ref (q 50), .ref (q 51), .long (ac_gl σ)]).set 8 (.int v))) = ac_wd q cI cZ (ac_si σ 19 v) := rfl
theorem ac_put_20 (q : Nat → Nat) (cI cZ : ClassId) (σ : SS) (v : Int32) : (ac_wd q cI cZ σ).set 30 (q 30, .inr (7, ([.int (ac_gi σ 15), .int (ac_gi σ 16), .int (ac_gi σ 17), .ref (q 31), .ref (q 32), .ref (q 33), .ref (q 34), .int (ac_gi σ 18), .int (ac_gi σ 19), .ref (q 35), .ref (q 36), .ref (q 37), .ref (q 38), .int (ac_gi σ 20), .int (ac_gi σ 21), .int (ac_gi σ 22), .int (ac_gi σ 23), .int (ac_gi σ 24), .ref (q 39), .ref (q 40), .int (ac_gi σ 25), .ref (q 41), .int (ac_gi σ 26), .ref (q 42), .ref (q 43), .ref (q 44), .ref (q 45), .ref (q 46), .int (ac_gi σ 27), .ref (q 47), .ref (q 48), .ref (q 49), .ref (q 50), .ref (q 51), .long (ac_gl σ)]).set 13 (.int v))) = ac_wd q cI cZ (ac_si σ 20 v) := rfl
theorem ac_put_21 (q : Nat → Nat) (cI cZ : ClassId) (σ : SS) (v : Int32) : (ac_wd q cI cZ σ).set 30 (q 30, .inr (7, ([.int (ac_gi σ 15), .int (ac_gi σ 16), .int (ac_gi σ 17), .ref (q 31), .ref (q 32), .ref (q 33), .ref (q 34), .int (ac_gi σ 18), .int (ac_gi σ 19), .ref (q 35), .ref (q 36), .ref (q 37), .ref (q 38), .int (ac_gi σ 20), .int (ac_gi σ 21), .int (ac_gi σ 22), .int (ac_gi σ 23), .int (ac_gi σ 24), .ref (q 39), .ref (q 40), .int (ac_gi σ 25), .ref (q 41), .int (ac_gi σ 26), .ref (q 42), .ref (q 43), .ref (q 44), .ref (q 45), .ref (q 46), .int (ac_gi σ 27), .ref (q 47), .ref (q 48), .ref (q 49), .ref (q 50), .ref (q 51), .long (ac_gl σ)]).set 14 (.int v))) = ac_wd q cI cZ (ac_si σ 21 v) := rfl
theorem ac_put_22 (q : Nat → Nat) (cI cZ : ClassId) (σ : SS) (v : Int32) : (ac_wd q cI cZ σ).set 30 (q 30, .inr (7, ([.int (ac_gi σ 15), .int (ac_gi σ 16), .int (ac_gi σ 17), .ref (q 31), .ref (q 32), .ref (q 33), .ref (q 34), .int (ac_gi σ 18), .int (ac_gi σ 19), .ref (q 35), .ref (q 36), .ref (q 37), .ref (q 38), .int (ac_gi σ 20), .int (ac_gi σ 21), .int (ac_gi σ 22), .int (ac_gi σ 23), .int (ac_gi σ 24), .ref (q 39), .ref (q 40), .int (ac_gi σ 25), .ref (q 41), .int (ac_gi σ 26), .ref (q 42), .ref (q 43), .ref (q 44), .ref (q 45), .ref (q 46), .int (ac_gi σ 27), .ref (q 47), .ref (q 48), .ref (q 49), .ref (q 50), .ref (q 51), .long (ac_gl σ)]).set 15 (.int v))) = ac_wd q cI cZ (ac_si σ 22 v) := rfl
theorem ac_put_23 (q : Nat → Nat) (cI cZ : ClassId) (σ : SS) (v : Int32) : (ac_wd q cI cZ σ).set 30 (q 30, .inr (7, ([.int (ac_gi σ 15), .int (ac_gi σ 16), .int (ac_gi σ 17), .ref (q 31), .ref (q 32), .ref (q 33), .ref (q 34), .int (ac_gi σ 18), .int (ac_gi σ 19), .ref (q 35), .ref (q 36), .ref (q 37), .ref (q 38), .int (ac_gi σ 20), .int (ac_gi σ 21), .int (ac_gi σ 22), .int (ac_gi σ 23), .int (ac_gi σ 24), .ref (q 39), .ref (q 40), .int (ac_gi σ 25), .ref (q 41), .int (ac_gi σ 26), .ref (q 42), .ref (q 43), .ref (q 44), .ref (q 45), .ref (q 46), .int (ac_gi σ 27), .ref (q 47), .ref (q 48), .ref (q 49), .ref (q 50), .ref (q 51), .long (ac_gl σ)]).set 16 (.int v))) = ac_wd q cI cZ (ac_si σ 23 v) := rfl
theorem ac_put_24 (q : Nat → Nat) (cI cZ : ClassId) (σ : SS) (v : Int32) : (ac_wd q cI cZ σ).set 30 (q 30, .inr (7, ([.int (ac_gi σ 15), .int (ac_gi σ 16), .int (ac_gi σ 17), .ref (q 31), .ref (q 32), .ref (q 33), .ref (q 34), .int (ac_gi σ 18), .int (ac_gi σ 19), .ref (q 35), .ref (q 36), .ref (q 37), .ref (q 38), .int (ac_gi σ 20), .int (ac_gi σ 21), .int (ac_gi σ 22), .int (ac_gi σ 23), .int (ac_gi σ 24), .ref (q 39), .ref (q 40), .int (ac_gi σ 25), .ref (q 41), .int (ac_gi σ 26), .ref (q 42), .ref (q 43), .ref (q 44), .ref (q 45), .ref (q 46), .int (ac_gi σ 27), .ref (q 47), .ref (q 48), .ref (q 49), .ref (q 50), .ref (q 51), .long (ac_gl σ)]).set 17 (.int v))) = ac_wd q cI cZ (ac_si σ 24 v) := rfl
theorem ac_put_25 (q : Nat → Nat) (cI cZ : ClassId) (σ : SS) (v : Int32) : (ac_wd q cI cZ σ).set 30 (q 30, .inr (7, ([.int (ac_gi σ 15), .int (ac_gi σ 16), .int (ac_gi σ 17), .ref (q 31), .ref (q 32), .ref (q 33), .ref (q 34), .int (ac_gi σ 18), .int (ac_gi σ 19), .ref (q 35), .ref (q 36), .ref (q 37), .ref (q 38), .int (ac_gi σ 20), .int (ac_gi σ 21), .int (ac_gi σ 22), .int (ac_gi σ 23), .int (ac_gi σ 24), .ref (q 39), .ref (q 40), .int (ac_gi σ 25), .ref (q 41), .int (ac_gi σ 26), .ref (q 42), .ref (q 43), .ref (q 44), .ref (q 45), .ref (q 46), .int (ac_gi σ 27), .ref (q 47), .ref (q 48), .ref (q 49), .ref (q 50), .ref (q 51), .long (ac_gl σ)]).set 20 (.int v))) = ac_wd q cI cZ (ac_si σ 25 v) := rfl
theorem ac_put_26 (q : Nat → Nat) (cI cZ : ClassId) (σ : SS) (v : Int32) : (ac_wd q cI cZ σ).set 30 (q 30, .inr (7, ([.int (ac_gi σ 15), .int (ac_gi σ 16), .int (ac_gi σ 17), .ref (q 31), .ref (q 32), .ref (q 33), .ref (q 34), .int (ac_gi σ 18), .int (ac_gi σ 19), .ref (q 35), .ref (q 36), .ref (q 37), .ref (q 38), .int (ac_gi σ 20), .int (ac_gi σ 21), .int (ac_gi σ 22), .int (ac_gi σ 23), .int (ac_gi σ 24), .ref (q 39), .ref (q 40), .int (ac_gi σ 25), .ref (q 41), .int (ac_gi σ 26), .ref (q 42), .ref (q 43), .ref (q 44), .ref (q 45), .ref (q 46), .int (ac_gi σ 27), .ref (q 47), .ref (q 48), .ref (q 49), .ref (q 50), .ref (q 51), .long (ac_gl σ)]).set 22 (.int v))) = ac_wd q cI cZ (ac_si σ 26 v) := rfl
theorem ac_put_27 (q : Nat → Nat) (cI cZ : ClassId) (σ : SS) (v : Int32) : (ac_wd q cI cZ σ).set 30 (q 30, .inr (7, ([.int (ac_gi σ 15), .int (ac_gi σ 16), .int (ac_gi σ 17), .ref (q 31), .ref (q 32), .ref (q 33), .ref (q 34), .int (ac_gi σ 18), .int (ac_gi σ 19), .ref (q 35), .ref (q 36), .ref (q 37), .ref (q 38), .int (ac_gi σ 20), .int (ac_gi σ 21), .int (ac_gi σ 22), .int (ac_gi σ 23), .int (ac_gi σ 24), .ref (q 39), .ref (q 40), .int (ac_gi σ 25), .ref (q 41), .int (ac_gi σ 26), .ref (q 42), .ref (q 43), .ref (q 44), .ref (q 45), .ref (q 46), .int (ac_gi σ 27), .ref (q 47), .ref (q 48), .ref (q 49), .ref (q 50), .ref (q 51), .long (ac_gl σ)]).set 28 (.int v))) = ac_wd q cI cZ (ac_si σ 27 v) := rfl
theorem ac_put_l (q : Nat → Nat) (cI cZ : ClassId) (σ : SS) (v : Int64) : (ac_wd q cI cZ σ).set 30 (q 30, .inr (7, ([.int (ac_gi σ 15), .int (ac_gi σ 16), .int (ac_gi σ 17), .ref (q 31), .ref (q 32), .ref (q 33), .ref (q 34), .int (ac_gi σ 18), .int (ac_gi σ 19), .ref (q 35), .ref (q 36), .ref (q 37), .ref (q 38), .int (ac_gi σ 20), .int (ac_gi σ 21), .int (ac_gi σ 22), .int (ac_gi σ 23), .int (ac_gi σ 24), .ref (q 39), .ref (q 40), .int (ac_gi σ 25), .ref (q 41), .int (ac_gi σ 26), .ref (q 42), .ref (q 43), .ref (q 44), .ref (q 45), .ref (q 46), .int (ac_gi σ 27), .ref (q 47), .ref (q 48), .ref (q 49), .ref (q 50), .ref (q 51), .long (ac_gl σ)]).set 34 (.long v))) = ac_wd q cI cZ (ac_sl σ v) := rfl
theorem ac_ast_7 (q : Nat → Nat) (cI cZ : ClassId) (σ : SS) (f : Nat → Int32) : (ac_wd q cI cZ σ).set 7 (q 7, .inl (cI, 16, .inl f)) = ac_wd q cI cZ (ac_sa σ 7 f) := rfl
theorem ac_ast_8 (q : Nat → Nat) (cI cZ : ClassId) (σ : SS) (f : Nat → Int32) : (ac_wd q cI cZ σ).set 8 (q 8, .inl (cI, 10, .inl f)) = ac_wd q cI cZ (ac_sa σ 8 f) := rfl
theorem ac_ast_9 (q : Nat → Nat) (cI cZ : ClassId) (σ : SS) (f : Nat → Int32) : (ac_wd q cI cZ σ).set 9 (q 9, .inl (cI, 100, .inl f)) = ac_wd q cI cZ (ac_sa σ 9 f) := rfl
theorem ac_ast_10 (q : Nat → Nat) (cI cZ : ClassId) (σ : SS) (f : Nat → Int32) : (ac_wd q cI cZ σ).set 10 (q 10, .inl (cI, 10, .inl f)) = ac_wd q cI cZ (ac_sa σ 10 f) := rfl
theorem ac_ast_11 (q : Nat → Nat) (cI cZ : ClassId) (σ : SS) (f : Nat → Int32) : (ac_wd q cI cZ σ).set 11 (q 11, .inl (cI, 10, .inl f)) = ac_wd q cI cZ (ac_sa σ 11 f) := rfl
theorem ac_ast_12 (q : Nat → Nat) (cI cZ : ClassId) (σ : SS) (f : Nat → Int32) : (ac_wd q cI cZ σ).set 12 (q 12, .inl (cI, 10, .inl f)) = ac_wd q cI cZ (ac_sa σ 12 f) := rfl
theorem ac_ast_13 (q : Nat → Nat) (cI cZ : ClassId) (σ : SS) (f : Nat → Int32) : (ac_wd q cI cZ σ).set 13 (q 13, .inl (cI, 1024, .inl f)) = ac_wd q cI cZ (ac_sa σ 13 f) := rfl
theorem ac_ast_14 (q : Nat → Nat) (cI cZ : ClassId) (σ : SS) (f : Nat → Int32) : (ac_wd q cI cZ σ).set 14 (q 14, .inl (cI, 10, .inl f)) = ac_wd q cI cZ (ac_sa σ 14 f) := rfl
theorem ac_ast_15 (q : Nat → Nat) (cI cZ : ClassId) (σ : SS) (f : Nat → Int32) : (ac_wd q cI cZ σ).set 15 (q 15, .inl (cI, 10, .inl f)) = ac_wd q cI cZ (ac_sa σ 15 f) := rfl
theorem ac_ast_16 (q : Nat → Nat) (cI cZ : ClassId) (σ : SS) (f : Nat → Int32) : (ac_wd q cI cZ σ).set 16 (q 16, .inl (cI, 110, .inl f)) = ac_wd q cI cZ (ac_sa σ 16 f) := rfl
theorem ac_ast_17 (q : Nat → Nat) (cI cZ : ClassId) (σ : SS) (f : Nat → Int32) : (ac_wd q cI cZ σ).set 17 (q 17, .inl (cI, 10, .inl f)) = ac_wd q cI cZ (ac_sa σ 17 f) := rfl
theorem ac_ast_18 (q : Nat → Nat) (cI cZ : ClassId) (σ : SS) (f : Nat → Int32) : (ac_wd q cI cZ σ).set 18 (q 18, .inl (cI, 10, .inl f)) = ac_wd q cI cZ (ac_sa σ 18 f) := rfl
theorem ac_ast_19 (q : Nat → Nat) (cI cZ : ClassId) (σ : SS) (f : Nat → Int32) : (ac_wd q cI cZ σ).set 19 (q 19, .inl (cI, 10, .inl f)) = ac_wd q cI cZ (ac_sa σ 19 f) := rfl
theorem ac_ast_20 (q : Nat → Nat) (cI cZ : ClassId) (σ : SS) (f : Nat → Int32) : (ac_wd q cI cZ σ).set 20 (q 20, .inl (cI, 10, .inl f)) = ac_wd q cI cZ (ac_sa σ 20 f) := rfl
theorem ac_ast_21 (q : Nat → Nat) (cI cZ : ClassId) (σ : SS) (f : Nat → Int32) : (ac_wd q cI cZ σ).set 21 (q 21, .inl (cI, 24, .inl f)) = ac_wd q cI cZ (ac_sa σ 21 f) := rfl
theorem ac_ast_22 (q : Nat → Nat) (cI cZ : ClassId) (σ : SS) (f : Nat → Int32) : (ac_wd q cI cZ σ).set 22 (q 22, .inl (cI, 24, .inl f)) = ac_wd q cI cZ (ac_sa σ 22 f) := rfl
theorem ac_ast_23 (q : Nat → Nat) (cI cZ : ClassId) (σ : SS) (f : Nat → Int32) : (ac_wd q cI cZ σ).set 23 (q 23, .inl (cI, 24, .inl f)) = ac_wd q cI cZ (ac_sa σ 23 f) := rfl
theorem ac_ast_24 (q : Nat → Nat) (cI cZ : ClassId) (σ : SS) (f : Nat → Int32) : (ac_wd q cI cZ σ).set 24 (q 24, .inl (cI, 6, .inl f)) = ac_wd q cI cZ (ac_sa σ 24 f) := rfl
theorem ac_ast_25 (q : Nat → Nat) (cI cZ : ClassId) (σ : SS) (f : Nat → Int32) : (ac_wd q cI cZ σ).set 25 (q 25, .inl (cI, 6, .inl f)) = ac_wd q cI cZ (ac_sa σ 25 f) := rfl
theorem ac_ast_26 (q : Nat → Nat) (cI cZ : ClassId) (σ : SS) (f : Nat → Int32) : (ac_wd q cI cZ σ).set 26 (q 26, .inl (cI, 4096, .inl f)) = ac_wd q cI cZ (ac_sa σ 26 f) := rfl
theorem ac_ast_27 (q : Nat → Nat) (cI cZ : ClassId) (σ : SS) (f : Nat → Int32) : (ac_wd q cI cZ σ).set 27 (q 27, .inl (cI, 10, .inl f)) = ac_wd q cI cZ (ac_sa σ 27 f) := rfl
theorem ac_ast_28 (q : Nat → Nat) (cI cZ : ClassId) (σ : SS) (f : Nat → Int32) : (ac_wd q cI cZ σ).set 28 (q 28, .inl (cI, 10, .inl f)) = ac_wd q cI cZ (ac_sa σ 28 f) := rfl
theorem ac_ast_29 (q : Nat → Nat) (cI cZ : ClassId) (σ : SS) (f : Nat → Int32) : (ac_wd q cI cZ σ).set 29 (q 29, .inl (cI, 1024, .inl f)) = ac_wd q cI cZ (ac_sa σ 29 f) := rfl
theorem ac_ast_31 (q : Nat → Nat) (cI cZ : ClassId) (σ : SS) (f : Nat → Int32) : (ac_wd q cI cZ σ).set 31 (q 31, .inl (cI, 100, .inl f)) = ac_wd q cI cZ (ac_sa σ 31 f) := rfl
theorem ac_ast_32 (q : Nat → Nat) (cI cZ : ClassId) (σ : SS) (f : Nat → Int32) : (ac_wd q cI cZ σ).set 32 (q 32, .inl (cI, 10, .inl f)) = ac_wd q cI cZ (ac_sa σ 32 f) := rfl
theorem ac_ast_33 (q : Nat → Nat) (cI cZ : ClassId) (σ : SS) (f : Nat → Int32) : (ac_wd q cI cZ σ).set 33 (q 33, .inl (cI, 10, .inl f)) = ac_wd q cI cZ (ac_sa σ 33 f) := rfl
theorem ac_ast_34 (q : Nat → Nat) (cI cZ : ClassId) (σ : SS) (f : Nat → Int32) : (ac_wd q cI cZ σ).set 34 (q 34, .inl (cI, 10, .inl f)) = ac_wd q cI cZ (ac_sa σ 34 f) := rfl
theorem ac_ast_35 (q : Nat → Nat) (cI cZ : ClassId) (σ : SS) (f : Nat → Int32) : (ac_wd q cI cZ σ).set 35 (q 35, .inl (cZ, 1024, .inl f)) = ac_wd q cI cZ (ac_sa σ 35 f) := rfl
theorem ac_ast_36 (q : Nat → Nat) (cI cZ : ClassId) (σ : SS) (f : Nat → Int32) : (ac_wd q cI cZ σ).set 36 (q 36, .inl (cZ, 10, .inl f)) = ac_wd q cI cZ (ac_sa σ 36 f) := rfl
theorem ac_ast_37 (q : Nat → Nat) (cI cZ : ClassId) (σ : SS) (f : Nat → Int32) : (ac_wd q cI cZ σ).set 37 (q 37, .inl (cI, 10, .inl f)) = ac_wd q cI cZ (ac_sa σ 37 f) := rfl
theorem ac_ast_38 (q : Nat → Nat) (cI cZ : ClassId) (σ : SS) (f : Nat → Int32) : (ac_wd q cI cZ σ).set 38 (q 38, .inl (cI, 10, .inl f)) = ac_wd q cI cZ (ac_sa σ 38 f) := rfl
theorem ac_ast_39 (q : Nat → Nat) (cI cZ : ClassId) (σ : SS) (f : Nat → Int32) : (ac_wd q cI cZ σ).set 39 (q 39, .inl (cI, 10, .inl f)) = ac_wd q cI cZ (ac_sa σ 39 f) := rfl
theorem ac_ast_40 (q : Nat → Nat) (cI cZ : ClassId) (σ : SS) (f : Nat → Int32) : (ac_wd q cI cZ σ).set 40 (q 40, .inl (cI, 10, .inl f)) = ac_wd q cI cZ (ac_sa σ 40 f) := rfl
theorem ac_ast_41 (q : Nat → Nat) (cI cZ : ClassId) (σ : SS) (f : Nat → Int32) : (ac_wd q cI cZ σ).set 41 (q 41, .inl (cI, 6, .inl f)) = ac_wd q cI cZ (ac_sa σ 41 f) := rfl
theorem ac_ast_42 (q : Nat → Nat) (cI cZ : ClassId) (σ : SS) (f : Nat → Int32) : (ac_wd q cI cZ σ).set 42 (q 42, .inl (cI, 24, .inl f)) = ac_wd q cI cZ (ac_sa σ 42 f) := rfl
theorem ac_ast_43 (q : Nat → Nat) (cI cZ : ClassId) (σ : SS) (f : Nat → Int32) : (ac_wd q cI cZ σ).set 43 (q 43, .inl (cI, 24, .inl f)) = ac_wd q cI cZ (ac_sa σ 43 f) := rfl
theorem ac_ast_44 (q : Nat → Nat) (cI cZ : ClassId) (σ : SS) (f : Nat → Int32) : (ac_wd q cI cZ σ).set 44 (q 44, .inl (cI, 24, .inl f)) = ac_wd q cI cZ (ac_sa σ 44 f) := rfl
theorem ac_ast_45 (q : Nat → Nat) (cI cZ : ClassId) (σ : SS) (f : Nat → Int32) : (ac_wd q cI cZ σ).set 45 (q 45, .inl (cI, 6, .inl f)) = ac_wd q cI cZ (ac_sa σ 45 f) := rfl
theorem ac_ast_46 (q : Nat → Nat) (cI cZ : ClassId) (σ : SS) (f : Nat → Int32) : (ac_wd q cI cZ σ).set 46 (q 46, .inl (cI, 6, .inl f)) = ac_wd q cI cZ (ac_sa σ 46 f) := rfl
theorem ac_ast_47 (q : Nat → Nat) (cI cZ : ClassId) (σ : SS) (f : Nat → Int32) : (ac_wd q cI cZ σ).set 47 (q 47, .inl (cI, 448, .inl f)) = ac_wd q cI cZ (ac_sa σ 47 f) := rfl
theorem ac_ast_48 (q : Nat → Nat) (cI cZ : ClassId) (σ : SS) (f : Nat → Int32) : (ac_wd q cI cZ σ).set 48 (q 48, .inl (cI, 10, .inl f)) = ac_wd q cI cZ (ac_sa σ 48 f) := rfl
theorem ac_ast_49 (q : Nat → Nat) (cI cZ : ClassId) (σ : SS) (f : Nat → Int32) : (ac_wd q cI cZ σ).set 49 (q 49, .inl (cI, 10, .inl f)) = ac_wd q cI cZ (ac_sa σ 49 f) := rfl
theorem ac_ast_50 (q : Nat → Nat) (cI cZ : ClassId) (σ : SS) (f : Nat → Int32) : (ac_wd q cI cZ σ).set 50 (q 50, .inl (cI, 1024, .inl f)) = ac_wd q cI cZ (ac_sa σ 50 f) := rfl
theorem ac_ast_51 (q : Nat → Nat) (cI cZ : ClassId) (σ : SS) (f : Nat → Int32) : (ac_wd q cI cZ σ).set 51 (q 51, .inl (cI, 16, .inl f)) = ac_wd q cI cZ (ac_sa σ 51 f) := rfl
