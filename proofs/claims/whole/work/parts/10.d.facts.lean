/-! what a call that did not throw tells -/
theorem f_kind {σ : XS} {x : Int32} {u : Unit} (h : S_LC_requireKind σ x = .inl u) : vp_in x 6 := by
  unfold S_LC_requireKind at h
  split at h
  · cases h
  · split at h
    · rename_i c1 c2
      rw [vp_in_iff]
      rw [Int32.lt_iff_toInt_lt] at c1 c2
      have h0 : (0 : Int32).toInt = 0 := rfl
      have h6 : (6 : Int32).toInt = 6 := rfl
      omega
    · cases h
theorem f_cup {σ : XS} {x : Int32} {u : Unit} (h : S_LC_requireCupboard σ x = .inl u) : vp_in x 8 := by
  unfold S_LC_requireCupboard at h
  split at h
  · cases h
  · split at h
    · rename_i c1 c2
      rw [vp_in_iff]
      rw [Int32.lt_iff_toInt_lt] at c1 c2
      have h0 : (0 : Int32).toInt = 0 := rfl
      have h6 : (8 : Int32).toInt = 8 := rfl
      omega
    · cases h
theorem f_item {σ : XS} {x : Int32} {u : Unit} (h : S_LC_requireItem σ x = .inl u) : vp_in x 30 := by
  unfold S_LC_requireItem at h
  split at h
  · cases h
  · split at h
    · rename_i c1 c2
      rw [vp_in_iff]
      rw [Int32.lt_iff_toInt_lt] at c1 c2
      have h0 : (0 : Int32).toInt = 0 := rfl
      have h6 : (30 : Int32).toInt = 30 := rfl
      omega
    · cases h
theorem f_known {σ : XS} (hok : XOk σ) {v : Int32} {i : Nat} (h : S_LC_knownVehicle σ v = .inl i) : i < 16 := by
  unfold S_LC_knownVehicle at h
  split at h
  · cases h
  · split at h
    · rename_i c1 c2
      cases h
      exact vp_lt (o_known hok c1 c2)
    · cases h
theorem o_vcin {σ : XS} (hok : XOk σ) (c : σ.1 0 0 6 < 16) : vp_in (σ.1 0 0 6) 16 := by
  rw [vp_in_iff]
  rw [Int32.lt_iff_toInt_lt] at c
  have h6 : (16 : Int32).toInt = 16 := rfl
  have := hok.1
  omega
theorem o_msc {x : Int32} (c1 : ¬ x < 0) (c2 : x < 240) : vp_in x 240 := by
  rw [vp_in_iff]
  rw [Int32.lt_iff_toInt_lt] at c1 c2
  have h0 : (0 : Int32).toInt = 0 := rfl
  have h6 : (240 : Int32).toInt = 240 := rfl
  omega
theorem o_sw1 {σ : XS} (hok : XOk σ) {i j : Nat} {a b n k w x : Int32} : 0 ≤ ((S_VE_load (S_VE_load σ i a n w).2 j b k x).2.2 7 0 1).toInt := by
  show 0 ≤ (σ.2 7 0 1).toInt
  exact hok.2.2.1
theorem o_sw2 {σ : XS} (hok : XOk σ) {i j : Nat} {a b n k w x y z q : Int32} : 0 ≤ ((S_RW_add (S_VE_load (S_VE_load σ i a n w).2 j b k x).2 y z q).2.2 7 0 1).toInt := by
  show 0 ≤ ((σ.2 7 0 1) + 1).toInt
  have h1 := hok.2.2
  rw [Jvm.Kit.i64_add (by have h0 : (1 : Int64).toInt = 1 := rfl; omega) (by have h0 : (1 : Int64).toInt = 1 := rfl; omega)]
  have h0 : (1 : Int64).toInt = 1 := rfl
  omega
theorem o_gcdL (σ : XS) : ∀ (n : Nat) (a b : Int64) (x8 : Int32) (k : Nat), x8 = nI k → k + n = 201 → k < 201 → ¬ L_LC_commonDivisor n σ a b x8 = 0 := by
  have key : ∀ a : Int64, ¬ (if 1 < a then a else 1) = 0 := by
    intro a
    split
    · rename_i c
      intro q
      rw [q] at c
      exact absurd c (by decide)
    · decide
  intro n
  induction n with
  | zero => intro a b x8 k _ h1 h2; omega
  | succ n ih =>
    intro a b x8 k e h1 h2
    rw [L_LC_commonDivisor]
    split
    · exact key a
    · rename_i c
      have hk : k < 200 := x_klt (b := 200) rfl (by decide) (by omega) e c
      split
      · exact key a
      · exact ih _ _ _ (k + 1) (by rw [e]; exact nI_1 k) (by omega) (by omega)
theorem o_gcd {σ : XS} {a b : Int64} : ¬ S_LC_commonDivisor σ a b = 0 := by
  unfold S_LC_commonDivisor
  exact o_gcdL σ 201 _ _ _ 0 nI_0.symm rfl (by decide)
theorem o_num {σ : XS} {a b : Int32} (c8 : ¬ S_RW_keeps σ a = 0) (c12 : ¬ b < 0) (c17 : b < 3) : vp_in ((a - a / (100 : Int32) * (100 : Int32)) * (3 : Int32) + b) 300 := by
  have ha : ¬ a < 0 := by
    intro q
    apply c8
    unfold S_RW_keeps
    rw [if_pos q]
  obtain ⟨i, hi, rfl⟩ := nI_of ha
  have hb : vp_in b 3 := by
    rw [vp_in_iff]
    rw [Int32.lt_iff_toInt_lt] at c12 c17
    have h0 : (0 : Int32).toInt = 0 := rfl
    have h6 : (3 : Int32).toInt = 3 := rfl
    omega
  obtain ⟨j, hj, rfl⟩ := vp_in_of hb (by decide)
  show vp_in ((nI i - nI i / nI 100 * nI 100) * nI 3 + nI j) 300
  rw [pk_rem hi (by decide) (by decide), pk_mul, nI_add]
  have := Nat.mod_lt i (show 0 < 100 by decide)
  exact vp_in_nI (by omega) (by decide)
