def KP (σ : XS) (a : Int32) : Prop := 0 ≤ a.toInt ∧ a.toInt < (σ.1 15 0 18).toInt ∧ (σ.1 15 0 18).toInt - 100 ≤ a.toInt
theorem ke_all {t : Nat} {σ : XS} (h : Rel t σ) (ht : t < 512) (a : Int32) : (KP σ a → S_RW_keeps σ a = 1) ∧ (¬ KP σ a → S_RW_keeps σ a = 0) := by
  have hr := h.rwr
  have e := h.rw
  have n0 : (0 : Int32).toInt = 0 := rfl
  have n100 : (100 : Int64).toInt = 100 := rfl
  have e2 : (σ.2 7 0 1 - 100).toInt = (σ.1 15 0 18).toInt - 100 := by
    rw [l_sub (by rw [e]; omega) (by rw [e]; omega), e]
    omega
  have k2 : 0 ≤ lg_cmp a.toInt64 (σ.2 7 0 1) ↔ (σ.1 15 0 18).toInt ≤ a.toInt := by
    rw [lg_cmp_ge, Int64.le_iff_toInt_le, e, l_of]
  have k3 : lg_cmp a.toInt64 (σ.2 7 0 1 - 100) < 0 ↔ a.toInt < (σ.1 15 0 18).toInt - 100 := by
    rw [lg_cmp_lt, Int64.lt_iff_toInt_lt, e2, l_of]
  unfold S_RW_keeps KP
  by_cases p1 : a < 0
  · rw [if_pos p1]
    rw [Int32.lt_iff_toInt_lt] at p1
    exact ⟨fun z => by exfalso; omega, fun _ => rfl⟩
  · rw [if_neg p1]
    rw [Int32.lt_iff_toInt_lt] at p1
    by_cases p2 : 0 ≤ lg_cmp a.toInt64 (σ.2 7 0 1)
    · rw [if_pos p2]
      have q2 := k2.mp p2
      exact ⟨fun z => by exfalso; omega, fun _ => rfl⟩
    · rw [if_neg p2]
      have q2 := mt k2.mpr p2
      by_cases p3 : lg_cmp a.toInt64 (σ.2 7 0 1 - 100) < 0
      · rw [if_pos p3]
        have q3 := k3.mp p3
        exact ⟨fun z => by exfalso; omega, fun _ => rfl⟩
      · rw [if_neg p3]
        have q3 := mt k3.mpr p3
        exact ⟨fun _ => rfl, fun z => by exfalso; omega⟩
theorem ix_row1 {k b : Nat} (hk : k < 2 ^ 31) (hb : b < 3) : ((nI k - nI k / (100 : Int32) * (100 : Int32)) * (3 : Int32) + nI b).toNatClampNeg = 3 * (k % 100) + b := by
  show ((nI k - nI k / nI 100 * nI 100) * nI 3 + nI b).toNatClampNeg = _
  rw [pk_rem hk (by decide) (by decide), pk_mul, nI_add, ix_1 (by omega)]
  omega
theorem ix_row2 {k b : Nat} (hk : k < 2 ^ 31) (hb : b < 3) : ((3 : Int32) * (nI k - nI k / (100 : Int32) * (100 : Int32)) + nI b).toNatClampNeg = 3 * (k % 100) + b := by
  show (nI 3 * (nI k - nI k / nI 100 * nI 100) + nI b).toNatClampNeg = _
  rw [pk_rem hk (by decide) (by decide), pk_mul, nI_add, ix_1 (by omega)]
set_option maxHeartbeats 4000000 in
theorem r_row {t : Nat} {σ : XS} (h : Rel t σ) (ht : t < 512) (a b : Int32) : Rel (t + 1) (S_MO_row (S_LW_row σ a b).2 a b).2 ∧ S_MO_thrown (S_MO_row (S_LW_row σ a b).2 a b).2 = (S_LW_row σ a b).1 ∧ ((S_LW_row σ a b).1 = 0 → (S_MO_row (S_LW_row σ a b).2 a b).2.2 31 0 0 = ((S_MO_row (S_LW_row σ a b).2 a b).1).toInt64) := by
  have hr := h.rwr
  have n0 : (0 : Int32).toInt = 0 := rfl
  have n1 : (1 : Int32).toInt = 1 := rfl
  have n2 : (2 : Int32).toInt = 2 := rfl
  have n3 : (3 : Int32).toInt = 3 := rfl
  have n100 : (100 : Int32).toInt = 100 := rfl
  have m1 : (σ.1 15 0 18 - 1).toInt = (σ.1 15 0 18).toInt - 1 := i_sub (by omega) (by omega)
  have m2 : (σ.1 15 0 18 - 100).toInt = (σ.1 15 0 18).toInt - 100 := i_sub (by omega) (by omega)
  have hi : ∀ x : Int64, inb a 0 (((xuL σ 31 0 0 x).1 15 0 18) - 1) ↔ inb a 0 (σ.1 15 0 18 - 1) := fun _ => Iff.rfl
  have fail : ∀ (e1 : S_LW_row σ a b = (1, σ)) (e2 : S_MO_row σ a b = (0, xuI σ 15 0 0 1)), Rel (t + 1) (S_MO_row (S_LW_row σ a b).2 a b).2 ∧ S_MO_thrown (S_MO_row (S_LW_row σ a b).2 a b).2 = (S_LW_row σ a b).1 ∧ ((S_LW_row σ a b).1 = 0 → (S_MO_row (S_LW_row σ a b).2 a b).2.2 31 0 0 = ((S_MO_row (S_LW_row σ a b).2 a b).1).toInt64) := by
    intro e1 e2
    rw [e1]
    show Rel (t + 1) (S_MO_row σ a b).2 ∧ S_MO_thrown (S_MO_row σ a b).2 = 1 ∧ ((1 : Int32) = 0 → _)
    rw [e2]
    exact ⟨h.thr 1, rfl, fun q => absurd q (by decide)⟩
  by_cases hK : KP σ a
  · have hA : inb a 0 (σ.1 15 0 18 - 1) := inb_iff.mpr (by rw [m1]; unfold KP at hK; omega)
    have hL : ¬ a < σ.1 15 0 18 - 100 := by
      rw [Int32.lt_iff_toInt_lt, m2]
      unfold KP at hK
      omega
    by_cases hB : inb b 0 2
    · obtain ⟨k, hk, rfl⟩ := nI_of (x := a) (by rw [Int32.lt_iff_toInt_lt]; unfold KP at hK; omega)
      obtain ⟨c, hc, rfl⟩ := inb_of (N := 2) rfl hB
      have c1 : ¬ nI c < 0 := by
        rw [Int32.lt_iff_toInt_lt, nI_toInt (by omega)]
        omega
      have c2 : nI c < 3 := by
        rw [Int32.lt_iff_toInt_lt, nI_toInt (by omega)]
        omega
      have e1 : S_LW_row σ (nI k) (nI c) = (0, xuL σ 31 0 0 (σ.1 8 0 (3 * (k % 100) + c)).toInt64) := by
        simp only [S_LW_row, S_LC_row, S_RW_number, (ke_all h ht (nI k)).1 hK, c1, c2, ix_row1 hk (show c < 3 by omega), xbp_l, xbp_r, xca_l, xca_r, i1n0, if_true, if_false, ite_self]
      have e2 : S_MO_row (xuL σ 31 0 0 (σ.1 8 0 (3 * (k % 100) + c)).toInt64) (nI k) (nI c) = (σ.1 30 0 (3 * (k % 100) + c), xuI (xuL σ 31 0 0 (σ.1 8 0 (3 * (k % 100) + c)).toInt64) 15 0 0 0) := by
        simp only [S_MO_row, xu_l, in_p _ hA, hL, in_p _ hB, thr_0, xu_o, Nat.reduceEqDiff, not_false_eq_true, ix_row2 hk (show c < 3 by omega), xbp_l, xbp_r, xca_l, xca_r, i1n0, if_true, if_false, ite_self]
      rw [e1]
      show Rel (t + 1) (S_MO_row (xuL σ 31 0 0 (σ.1 8 0 (3 * (k % 100) + c)).toInt64) (nI k) (nI c)).2 ∧ S_MO_thrown (S_MO_row (xuL σ 31 0 0 (σ.1 8 0 (3 * (k % 100) + c)).toInt64) (nI k) (nI c)).2 = 0 ∧ ((0 : Int32) = 0 → _)
      rw [e2]
      refine ⟨(h.out _).thr 0, rfl, fun _ => ?_⟩
      show (σ.1 8 0 (3 * (k % 100) + c)).toInt64 = (σ.1 30 0 (3 * (k % 100) + c)).toInt64
      rw [h.to _ (by omega)]
    · refine fail ?_ ?_
      · have hF : ¬ b < 0 → ¬ b < 3 := fun q z => hB (inb_iff.mpr (by rw [Int32.lt_iff_toInt_lt] at q z; omega))
        by_cases c1 : b < 0
        · simp only [S_LW_row, S_LC_row, (ke_all h ht a).1 hK, c1, xbp_l, xbp_r, xca_l, xca_r, i1n0, if_true, if_false, ite_self]
        · simp only [S_LW_row, S_LC_row, (ke_all h ht a).1 hK, c1, hF c1, xbp_l, xbp_r, xca_l, xca_r, i1n0, if_true, if_false, ite_self]
      · simp only [S_MO_row, in_p _ hA, hL, in_n _ hB, thr_1, xbp_l, xbp_r, xca_l, xca_r, i1n0, if_true, if_false, ite_self]
  · refine fail ?_ ?_
    · simp only [S_LW_row, S_LC_row, (ke_all h ht a).2 hK, xbp_l, xbp_r, xca_l, xca_r, i1n0, if_true, if_false, ite_self]
    · by_cases hA : inb a 0 (σ.1 15 0 18 - 1)
      · have hL : a < σ.1 15 0 18 - 100 := by
          rw [Int32.lt_iff_toInt_lt, m2]
          have hA := inb_iff.mp hA
          rw [m1] at hA
          unfold KP at hK
          omega
        simp only [S_MO_row, in_p _ hA, hL, thr_1, xbp_l, xbp_r, xca_l, xca_r, i1n0, if_true, if_false, ite_self]
      · simp only [S_MO_row, in_n _ hA, thr_1, xbp_l, xbp_r, xca_l, xca_r, i1n0, if_true, if_false, ite_self]
