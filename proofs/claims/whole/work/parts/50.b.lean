/-! names of exceptions, indices -/
theorem ex_aa : (IAE = "java/lang/IllegalArgumentException") = True := eq_true rfl
theorem ex_ba : (IOB = "java/lang/IllegalArgumentException") = False := eq_false (by decide)
theorem ex_bb : (IOB = "java/lang/IndexOutOfBoundsException") = True := eq_true rfl
theorem ex_ca : (ISE = "java/lang/IllegalArgumentException") = False := eq_false (by decide)
theorem ex_cb : (ISE = "java/lang/IndexOutOfBoundsException") = False := eq_false (by decide)
theorem ex_cc : (ISE = "java/lang/IllegalStateException") = True := eq_true rfl
theorem ex_da : (UOE = "java/lang/IllegalArgumentException") = False := eq_false (by decide)
theorem ex_db : (UOE = "java/lang/IndexOutOfBoundsException") = False := eq_false (by decide)
theorem ex_dc : (UOE = "java/lang/IllegalStateException") = False := eq_false (by decide)
theorem ex_ea : (ARE = "java/lang/IllegalArgumentException") = False := eq_false (by decide)
theorem ix_1 {a : Nat} (h : a < 2 ^ 31) : (nI a).toNatClampNeg = a := pk_cl a rfl h
theorem ix_cell (σ : XS) {b c : Nat} (hb : b < 8) (hc : c < 30) : (S_LC_cellOf σ (nI b) (nI c)).toNatClampNeg = 30 * b + c := by
  show (nI b * nI 30 + nI c).toNatClampNeg = _
  rw [pk_mul, nI_add, ix_1 (by omega)]
  omega
theorem ix_c3 {a b c : Nat} (ha : a < 16) (hb : b < 8) (hc : c < 30) : ((240 : Int32) * nI a + (30 : Int32) * nI b + nI c).toNatClampNeg = 240 * a + (30 * b + c) := by
  show (nI 240 * nI a + nI 30 * nI b + nI c).toNatClampNeg = _
  rw [pk_mul, pk_mul, nI_add, nI_add, ix_1 (by omega)]
  omega
theorem ix_8 {a b : Nat} (ha : a < 16) (hb : b < 8) : ((8 : Int32) * nI a + nI b).toNatClampNeg = 8 * a + b := by
  show (nI 8 * nI a + nI b).toNatClampNeg = _
  rw [pk_mul, nI_add, ix_1 (by omega)]
theorem ix_30 {a b : Nat} (ha : a < 16) (hb : b < 30) : ((30 : Int32) * nI a + nI b).toNatClampNeg = 30 * a + b := by
  show (nI 30 * nI a + nI b).toNatClampNeg = _
  rw [pk_mul, nI_add, ix_1 (by omega)]
theorem ix_240 {a b : Nat} (ha : a < 16) (hb : b < 240) : ((240 : Int32) * nI a + nI b).toNatClampNeg = 240 * a + b := by
  show (nI 240 * nI a + nI b).toNatClampNeg = _
  rw [pk_mul, nI_add, ix_1 (by omega)]
theorem inb_of {x : Int32} {N : Nat} {M : Int32} (hM : M.toInt = N) (h : inb x 0 M) : ∃ a : Nat, a < N + 1 ∧ x = nI a := by
  have h1 := inb_iff.mp h
  have h0 : (0 : Int32).toInt = 0 := rfl
  obtain ⟨a, ha, rfl⟩ := nI_of (x := x) (by rw [Int32.lt_iff_toInt_lt]; omega)
  rw [nI_toInt ha, hM] at h1
  exact ⟨a, by omega, rfl⟩
theorem isv_of {t : Nat} {σ : XS} (h : Rel t σ) {v : Int32} (hv : isv σ v) : ∃ a : Nat, a < 16 ∧ (a : Int) < (σ.1 15 0 6).toInt ∧ v = nI a := by
  have h0 : (0 : Int32).toInt = 0 := rfl
  have h1 := hv.1
  have h2 := hv.2
  have h3 := h.nvr.2
  obtain ⟨a, ha, rfl⟩ := nI_of (x := v) (by rw [Int32.lt_iff_toInt_lt]; omega)
  rw [nI_toInt ha] at h2
  exact ⟨a, by omega, h2, rfl⟩
theorem xu_s (σ : XS) (r i j : Nat) (v : Int32) : (xuI σ r i j v).1 r i j = v := if_pos ⟨rfl, rfl, rfl⟩
theorem xu_o (σ : XS) (r i j : Nat) (v : Int32) {r' i' j' : Nat} (h : ¬ r' = r) : (xuI σ r i j v).1 r' i' j' = σ.1 r' i' j' := if_neg (fun q => h q.1)
theorem xu_l (σ : XS) (r i j : Nat) (v : Int64) : (xuL σ r i j v).1 = σ.1 := rfl
theorem xu_2 (σ : XS) (r i j : Nat) (v : Int32) : (xuI σ r i j v).2 = σ.2 := rfl
theorem xu_j (σ : XS) (r i j : Nat) (v : Int32) {r' i' j' : Nat} (h : ¬ j' = j) : (xuI σ r i j v).1 r' i' j' = σ.1 r' i' j' := if_neg (fun q => h q.2.1)
