/-! the state: ints and longs by region, number, place -/
abbrev XS : Type := (Nat → Nat → Nat → Int32) × (Nat → Nat → Nat → Int64)
def xuI (σ : XS) (r i j : Nat) (v : Int32) : XS := (fun r' i' j' => if r' = r ∧ j' = j ∧ i' = i then v else σ.1 r' i' j', σ.2)
def xuL (σ : XS) (r i j : Nat) (v : Int64) : XS := (σ.1, fun r' i' j' => if r' = r ∧ j' = j ∧ i' = i then v else σ.2 r' i' j')
def XA (r i : Nat) : Nat := match r with
  | 0 => 0
  | 1 => 1
  | 2 => 2
  | 3 => 3
  | 4 => 4
  | 5 => 5 + i
  | 6 => 11
  | 7 => 12
  | 8 => 13
  | 9 => 14 + 6 * i
  | 10 => 15 + 6 * i
  | 11 => 16 + 6 * i
  | 12 => 17 + 6 * i
  | 13 => 18 + 6 * i
  | 14 => 19 + 6 * i
  | 15 => 110
  | 16 => 111
  | 17 => 112
  | 18 => 113
  | 19 => 114
  | 20 => 115
  | 21 => 116
  | 22 => 117
  | 23 => 118
  | 24 => 119
  | 25 => 120
  | 26 => 121
  | 27 => 122
  | 28 => 123
  | 29 => 124
  | 30 => 125
  | 31 => 126
  | _ => 0
def XN (r : Nat) : Nat := match r with
  | 0 => 1
  | 1 => 1
  | 2 => 1
  | 3 => 1
  | 4 => 1
  | 5 => 6
  | 6 => 1
  | 7 => 1
  | 8 => 1
  | 9 => 16
  | 10 => 16
  | 11 => 16
  | 12 => 16
  | 13 => 16
  | 14 => 16
  | 15 => 1
  | 16 => 1
  | 17 => 1
  | 18 => 1
  | 19 => 1
  | 20 => 1
  | 21 => 1
  | 22 => 1
  | 23 => 1
  | 24 => 1
  | 25 => 1
  | 26 => 1
  | 27 => 1
  | 28 => 1
  | 29 => 1
  | 30 => 1
  | 31 => 1
  | _ => 0
def xB (s0 : State) : Nat := s0.heap.size
def XE0 (dA : Nat → ClassId) (B : Nat) (f : Nat → Int32) (g : Nat → Int64) (r i : Nat) : va_E := match r with
  | 0 => .inr (0, [.ref (B + XA 1 0), .ref (B + XA 2 0), .ref (B + XA 3 0), .ref (B + XA 4 0), .ref (B + XA 6 0), .ref (B + XA 7 0), .int (f 6), .int (f 7), .int (f 8)])
  | 1 => .inl (dA 0, 30, .inl f)
  | 2 => .inl (dA 0, 30, .inl f)
  | 3 => .inl (dA 0, 30, .inl f)
  | 4 => .inl (dA 3, 6, .inr (.inr (.inr (.inr fun j => some (B + XA 5 j)))))
  | 5 => .inl (dA 0, 240, .inl f)
  | 6 => .inl (dA 4, 16, .inr (.inr (.inr (.inr fun j => some (B + XA 9 j)))))
  | 7 => .inr (2, [.ref (B + XA 8 0), .long (g 1)])
  | 8 => .inl (dA 0, 300, .inl f)
  | 9 => .inr (1, [.ref (B + XA 10 i), .ref (B + XA 11 i), .ref (B + XA 12 i), .ref (B + XA 13 i), .ref (B + XA 14 i), .int (f 5), .int (f 6), .int (f 7), .int (f 8), .int (f 9), .int (f 10), .long (g 11), .long (g 12)])
  | 10 => .inl (dA 0, 8, .inl f)
  | 11 => .inl (dA 1, 8, .inl f)
  | 12 => .inl (dA 0, 240, .inl f)
  | 13 => .inl (dA 0, 30, .inl f)
  | 14 => .inl (dA 0, 30, .inl f)
  | 15 => .inr (3, [.int (f 0), .int (f 1), .int (f 2), .ref (B + XA 16 0), .ref (B + XA 17 0), .ref (B + XA 18 0), .int (f 6), .ref (B + XA 19 0), .ref (B + XA 20 0), .ref (B + XA 21 0), .ref (B + XA 22 0), .ref (B + XA 23 0), .ref (B + XA 24 0), .ref (B + XA 25 0), .ref (B + XA 26 0), .ref (B + XA 27 0), .ref (B + XA 28 0), .ref (B + XA 29 0), .int (f 18), .ref (B + XA 30 0)])
  | 16 => .inl (dA 0, 30, .inl f)
  | 17 => .inl (dA 0, 30, .inl f)
  | 18 => .inl (dA 0, 30, .inl f)
  | 19 => .inl (dA 0, 16, .inl f)
  | 20 => .inl (dA 0, 16, .inl f)
  | 21 => .inl (dA 0, 16, .inl f)
  | 22 => .inl (dA 0, 16, .inl f)
  | 23 => .inl (dA 0, 16, .inl f)
  | 24 => .inl (dA 0, 128, .inl f)
  | 25 => .inl (dA 1, 128, .inl f)
  | 26 => .inl (dA 0, 480, .inl f)
  | 27 => .inl (dA 0, 480, .inl f)
  | 28 => .inl (dA 0, 3840, .inl f)
  | 29 => .inl (dA 0, 1440, .inl f)
  | 30 => .inl (dA 0, 300, .inl f)
  | 31 => .inl (dA 2, 1, .inr (.inl g))
  | _ => .inr (0, [])
def XE (dA : Nat → ClassId) (B : Nat) (σ : XS) (r i : Nat) : va_E := XE0 dA B (σ.1 r i) (σ.2 r i) r i
theorem xuI_row (σ : XS) (r i j : Nat) (v : Int32) : (xuI σ r i j v).1 r i = upd (σ.1 r i) j v := by
  funext k
  simp [xuI, upd]
theorem xuL_row (σ : XS) (r i j : Nat) (v : Int64) : (xuL σ r i j v).2 r i = vp_updL (σ.2 r i) j v := by
  funext k
  simp [xuL, vp_updL]
theorem xuI_oth (σ : XS) (r i j : Nat) (v : Int32) {r' i' : Nat} (h : ¬ (r' = r ∧ i' = i)) : (xuI σ r i j v).1 r' i' = σ.1 r' i' := by
  funext k
  show (if r' = r ∧ k = j ∧ i' = i then v else σ.1 r' i' k) = _
  rw [if_neg (fun q => h ⟨q.1, q.2.2⟩)]
theorem xuL_oth (σ : XS) (r i j : Nat) (v : Int64) {r' i' : Nat} (h : ¬ (r' = r ∧ i' = i)) : (xuL σ r i j v).2 r' i' = σ.2 r' i' := by
  funext k
  show (if r' = r ∧ k = j ∧ i' = i then v else σ.2 r' i' k) = _
  rw [if_neg (fun q => h ⟨q.1, q.2.2⟩)]
theorem xe_uI (dA : Nat → ClassId) (B : Nat) (σ : XS) (r i j : Nat) (v : Int32) : XE dA B (xuI σ r i j v) r i = XE0 dA B (upd (σ.1 r i) j v) (σ.2 r i) r i := by
  unfold XE
  rw [xuI_row]
  rfl
theorem xe_uL (dA : Nat → ClassId) (B : Nat) (σ : XS) (r i j : Nat) (v : Int64) : XE dA B (xuL σ r i j v) r i = XE0 dA B (σ.1 r i) (vp_updL (σ.2 r i) j v) r i := by
  unfold XE
  rw [xuL_row]
  rfl
theorem xe_oI (dA : Nat → ClassId) (B : Nat) (σ : XS) (r i j : Nat) (v : Int32) : ∀ r' i', ¬ (r' = r ∧ i' = i) → XE dA B (xuI σ r i j v) r' i' = XE dA B σ r' i' := fun r' i' h => by
  unfold XE
  rw [xuI_oth σ r i j v h]
  rfl
theorem xe_oL (dA : Nat → ClassId) (B : Nat) (σ : XS) (r i j : Nat) (v : Int64) : ∀ r' i', ¬ (r' = r ∧ i' = i) → XE dA B (xuL σ r i j v) r' i' = XE dA B σ r' i' := fun r' i' h => by
  unfold XE
  rw [xuL_oth σ r i j v h]
  rfl
def xInvL : List (Nat × Nat) := [(0, 0), (1, 0), (2, 0), (3, 0), (4, 0), (5, 0), (5, 1), (5, 2), (5, 3), (5, 4), (5, 5), (6, 0), (7, 0), (8, 0), (9, 0), (10, 0), (11, 0), (12, 0), (13, 0), (14, 0), (9, 1), (10, 1), (11, 1), (12, 1), (13, 1), (14, 1), (9, 2), (10, 2), (11, 2), (12, 2), (13, 2), (14, 2), (9, 3), (10, 3), (11, 3), (12, 3), (13, 3), (14, 3), (9, 4), (10, 4), (11, 4), (12, 4), (13, 4), (14, 4), (9, 5), (10, 5), (11, 5), (12, 5), (13, 5), (14, 5), (9, 6), (10, 6), (11, 6), (12, 6), (13, 6), (14, 6), (9, 7), (10, 7), (11, 7), (12, 7), (13, 7), (14, 7), (9, 8), (10, 8), (11, 8), (12, 8), (13, 8), (14, 8), (9, 9), (10, 9), (11, 9), (12, 9), (13, 9), (14, 9), (9, 10), (10, 10), (11, 10), (12, 10), (13, 10), (14, 10), (9, 11), (10, 11), (11, 11), (12, 11), (13, 11), (14, 11), (9, 12), (10, 12), (11, 12), (12, 12), (13, 12), (14, 12), (9, 13), (10, 13), (11, 13), (12, 13), (13, 13), (14, 13), (9, 14), (10, 14), (11, 14), (12, 14), (13, 14), (14, 14), (9, 15), (10, 15), (11, 15), (12, 15), (13, 15), (14, 15), (15, 0), (16, 0), (17, 0), (18, 0), (19, 0), (20, 0), (21, 0), (22, 0), (23, 0), (24, 0), (25, 0), (26, 0), (27, 0), (28, 0), (29, 0), (30, 0), (31, 0)]
theorem xInv_all : ((List.range 32).all fun r => (List.range (XN r)).all fun i => decide (xInvL[XA r i]? = some (r, i))) = true := by decide +kernel
theorem xN_lt {r i : Nat} (h : i < XN r) : r < 32 := by
  rcases Nat.lt_or_ge r 32 with q | q
  · exact q
  · exfalso
    have : XN r = 0 := by
      unfold XN
      split <;> first | rfl | omega
    omega
theorem xInv_at {r i : Nat} (h : i < XN r) : xInvL[XA r i]? = some (r, i) := by
  have h1 := List.all_eq_true.mp (List.all_eq_true.mp xInv_all r (List.mem_range.mpr (xN_lt h))) i (List.mem_range.mpr h)
  exact of_decide_eq_true h1
theorem xInj : XInj XA XN := fun r i r' i' h h' he => by
  have h1 := xInv_at h
  rw [he, xInv_at h'] at h1
  have h2 := Option.some.inj h1
  exact ⟨(congrArg Prod.fst h2).symm, (congrArg Prod.snd h2).symm⟩
def xtys (dA : Nat → ClassId) : List (ClassId × FieldType) := [(dA 0, .int), (dA 1, .boolean), (dA 2, .long), (dA 3, .array .int), (dA 4, .object "LoadChecks$Vehicle")]
def xT : List Cond := lw_tbl.filter x_goodW
def xStr : List (String × Nat × String) := [("LoadChecks", 219, "no such kind"), ("LoadChecks", 225, "outside its range"), ("LoadChecks", 56, "no room for one more vehicle"), ("LoadChecks", 217, "no such vehicle"), ("LoadChecks", 221, "no such cupboard"), ("LoadChecks", 86, "the cupboard is not empty"), ("LoadChecks", 223, "no such item"), ("LoadChecks", 99, "a vehicle or the stock has some of the old weight"), ("LoadChecks", 105, "no room in stock"), ("LoadChecks", 230, "an axle would be beyond its limit"), ("LoadChecks", 232, "no room in the cupboard"), ("LoadChecks", 228, "there are not so many"), ("LoadChecks", 137, "a vehicle swaps with another one"), ("LoadChecks", 153, "the seal is so already"), ("LoadChecks", 188, "below the first"), ("LoadChecks", 193, "nothing is needed"), ("LoadChecks", 196, "no such number of an axle"), ("LoadChecks", 212, "no such row or number of it")]
