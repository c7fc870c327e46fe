theorem vp_e {σ : XS} {a K : Nat} {day : Int32} (hall : ∀ j, j < 240 → (σ.1 5 K j ≤ 0) ∨ (σ.1 13 a (j % 30) = -1) ∨ (day < σ.1 13 a (j % 30))) : ∀ n k : Nat, k + n = 241 → k < 241 → L_VE_needsPastItem n σ a K day (nI k) = 0 := by
  intro n
  induction n with
  | zero => intro k h1 h2; omega
  | succ n ih =>
    intro k h1 h2
    rw [L_VE_needsPastItem]
    by_cases c9 : (240 : Int32) ≤ nI k
    · rw [if_pos c9]
    · have hk : k < 240 := x_klt (b := 240) rfl (by decide) (by omega) rfl c9
      rw [if_neg c9, ix_1 (a := k) (by omega), ix_rem hk, nI_1]
      by_cases z0 : σ.1 5 K k ≤ 0
      · rw [if_pos z0]
        exact ih (k + 1) (by omega) (by omega)
      · rw [if_neg z0]
        by_cases z1 : σ.1 13 a (k % 30) = -1
        · rw [if_pos z1]
          exact ih (k + 1) (by omega) (by omega)
        · rw [if_neg z1]
          by_cases z2 : day < σ.1 13 a (k % 30)
          · rw [if_pos z2]
            exact ih (k + 1) (by omega) (by omega)
          · rw [if_neg z2]
            exact absurd (hall k hk) (by simp only [z0, z1, z2, or_self, not_false_eq_true])
theorem vp_f {σ : XS} {a K : Nat} {day : Int32} {j : Nat} (hj : j < 240) (hC : ¬ ((σ.1 5 K j ≤ 0) ∨ (σ.1 13 a (j % 30) = -1) ∨ (day < σ.1 13 a (j % 30)))) : ∀ n k : Nat, k + n = 241 → k ≤ j → L_VE_needsPastItem n σ a K day (nI k) = 1 := by
  intro n
  induction n with
  | zero => intro k h1 h2; omega
  | succ n ih =>
    intro k h1 h2
    have hk : k < 240 := by omega
    have c9 : ¬ (240 : Int32) ≤ nI k := fun q => by
      rw [Int32.le_iff_toInt_le, nI_toInt (by omega)] at q
      have hN : (240 : Int32).toInt = 240 := rfl
      omega
    have hne : ((σ.1 5 K k ≤ 0) ∨ (σ.1 13 a (k % 30) = -1) ∨ (day < σ.1 13 a (k % 30))) → k + 1 ≤ j := fun q => by
      rcases Nat.lt_or_ge k j with g | g
      · exact g
      · have g2 : k = j := by omega
        rw [g2] at q
        exact absurd q hC
    rw [L_VE_needsPastItem, if_neg c9, ix_1 (a := k) (by omega), ix_rem hk, nI_1]
    by_cases z0 : σ.1 5 K k ≤ 0
    · rw [if_pos z0]
      exact ih (k + 1) (by omega) (hne (Or.inl z0))
    · rw [if_neg z0]
      by_cases z1 : σ.1 13 a (k % 30) = -1
      · rw [if_pos z1]
        exact ih (k + 1) (by omega) (hne (Or.inr (Or.inl z1)))
      · rw [if_neg z1]
        by_cases z2 : day < σ.1 13 a (k % 30)
        · rw [if_pos z2]
          exact ih (k + 1) (by omega) (hne (Or.inr (Or.inr (z2))))
        · rw [if_neg z2]
          try rfl
theorem vw_e {σ : XS} {a K : Nat} (hall : ∀ j, j < 240 → (σ.1 5 K j ≤ 0) ∨ (σ.1 2 0 (j % 30) ≤ σ.1 14 a (j % 30))) : ∀ n k : Nat, k + n = 241 → k < 241 → L_VE_needsWeakItem n σ a K (nI k) = 0 := by
  intro n
  induction n with
  | zero => intro k h1 h2; omega
  | succ n ih =>
    intro k h1 h2
    rw [L_VE_needsWeakItem]
    by_cases c9 : (240 : Int32) ≤ nI k
    · rw [if_pos c9]
    · have hk : k < 240 := x_klt (b := 240) rfl (by decide) (by omega) rfl c9
      rw [if_neg c9, ix_1 (a := k) (by omega), ix_rem hk, nI_1]
      by_cases z0 : σ.1 5 K k ≤ 0
      · rw [if_pos z0]
        exact ih (k + 1) (by omega) (by omega)
      · rw [if_neg z0]
        by_cases z1 : σ.1 2 0 (k % 30) ≤ σ.1 14 a (k % 30)
        · rw [if_pos z1]
          exact ih (k + 1) (by omega) (by omega)
        · rw [if_neg z1]
          exact absurd (hall k hk) (by simp only [z0, z1, or_self, not_false_eq_true])
theorem vw_f {σ : XS} {a K : Nat} {j : Nat} (hj : j < 240) (hC : ¬ ((σ.1 5 K j ≤ 0) ∨ (σ.1 2 0 (j % 30) ≤ σ.1 14 a (j % 30)))) : ∀ n k : Nat, k + n = 241 → k ≤ j → L_VE_needsWeakItem n σ a K (nI k) = 1 := by
  intro n
  induction n with
  | zero => intro k h1 h2; omega
  | succ n ih =>
    intro k h1 h2
    have hk : k < 240 := by omega
    have c9 : ¬ (240 : Int32) ≤ nI k := fun q => by
      rw [Int32.le_iff_toInt_le, nI_toInt (by omega)] at q
      have hN : (240 : Int32).toInt = 240 := rfl
      omega
    have hne : ((σ.1 5 K k ≤ 0) ∨ (σ.1 2 0 (k % 30) ≤ σ.1 14 a (k % 30))) → k + 1 ≤ j := fun q => by
      rcases Nat.lt_or_ge k j with g | g
      · exact g
      · have g2 : k = j := by omega
        rw [g2] at q
        exact absurd q hC
    rw [L_VE_needsWeakItem, if_neg c9, ix_1 (a := k) (by omega), ix_rem hk, nI_1]
    by_cases z0 : σ.1 5 K k ≤ 0
    · rw [if_pos z0]
      exact ih (k + 1) (by omega) (hne (Or.inl z0))
    · rw [if_neg z0]
      by_cases z1 : σ.1 2 0 (k % 30) ≤ σ.1 14 a (k % 30)
      · rw [if_pos z1]
        exact ih (k + 1) (by omega) (hne (Or.inr (z1)))
      · rw [if_neg z1]
        try rfl
theorem vb_e {σ : XS} {a : Nat} (hall : ∀ j, j < 8 → (σ.1 11 a j = 0)) : ∀ n k : Nat, k + n = 9 → k < 9 → L_VE_hasBrokenSeal n σ a (nI k) = 0 := by
  intro n
  induction n with
  | zero => intro k h1 h2; omega
  | succ n ih =>
    intro k h1 h2
    rw [L_VE_hasBrokenSeal]
    by_cases c9 : (8 : Int32) ≤ nI k
    · rw [if_pos c9]
    · have hk : k < 8 := x_klt (b := 8) rfl (by decide) (by omega) rfl c9
      rw [if_neg c9, ix_1 (a := k) (by omega), nI_1]
      by_cases z0 : σ.1 11 a k = 0
      · rw [if_pos z0]
        exact ih (k + 1) (by omega) (by omega)
      · rw [if_neg z0]
        exact absurd (hall k hk) (by simp only [z0, or_self, not_false_eq_true])
theorem vb_f {σ : XS} {a : Nat} {j : Nat} (hj : j < 8) (hC : ¬ ((σ.1 11 a j = 0))) : ∀ n k : Nat, k + n = 9 → k ≤ j → L_VE_hasBrokenSeal n σ a (nI k) = 1 := by
  intro n
  induction n with
  | zero => intro k h1 h2; omega
  | succ n ih =>
    intro k h1 h2
    have hk : k < 8 := by omega
    have c9 : ¬ (8 : Int32) ≤ nI k := fun q => by
      rw [Int32.le_iff_toInt_le, nI_toInt (by omega)] at q
      have hN : (8 : Int32).toInt = 8 := rfl
      omega
    have hne : ((σ.1 11 a k = 0)) → k + 1 ≤ j := fun q => by
      rcases Nat.lt_or_ge k j with g | g
      · exact g
      · have g2 : k = j := by omega
        rw [g2] at q
        exact absurd q hC
    rw [L_VE_hasBrokenSeal, if_neg c9, ix_1 (a := k) (by omega), nI_1]
    by_cases z0 : σ.1 11 a k = 0
    · rw [if_pos z0]
      exact ih (k + 1) (by omega) (hne (z0))
    · rw [if_neg z0]
      try rfl
theorem m4_e {τ : XS} {a : Nat} (ha : a < 16) (hall : ∀ j, j < 30 → (S_MO_isNeeded τ (nI a) (nI j) = 0) ∨ (τ.1 26 0 (30 * a + j) < 0) ∨ (τ.1 15 0 1 < τ.1 26 0 (30 * a + j))) : ∀ n k : Nat, k + n = 31 → k < 31 → L_MO_ready_105 n τ (nI a) (nI k) = L_MO_ready_162 31 τ (nI a) 0 := by
  intro n
  induction n with
  | zero => intro k h1 h2; omega
  | succ n ih =>
    intro k h1 h2
    rw [L_MO_ready_105]
    by_cases c9 : (30 : Int32) ≤ nI k
    · rw [if_pos c9]
    · have hk : k < 30 := x_klt (b := 30) rfl (by decide) (by omega) rfl c9
      rw [if_neg c9, ix_30 ha hk, nI_1]
      by_cases z0 : S_MO_isNeeded τ (nI a) (nI k) = 0
      · rw [if_pos z0]
        exact ih (k + 1) (by omega) (by omega)
      · rw [if_neg z0]
        by_cases z1 : τ.1 26 0 (30 * a + k) < 0
        · rw [if_pos z1]
          exact ih (k + 1) (by omega) (by omega)
        · rw [if_neg z1]
          by_cases z2 : τ.1 15 0 1 < τ.1 26 0 (30 * a + k)
          · rw [if_pos z2]
            exact ih (k + 1) (by omega) (by omega)
          · rw [if_neg z2]
            exact absurd (hall k hk) (by simp only [z0, z1, z2, or_self, not_false_eq_true])
theorem m4_f {τ : XS} {a : Nat} (ha : a < 16) {j : Nat} (hj : j < 30) (hC : ¬ ((S_MO_isNeeded τ (nI a) (nI j) = 0) ∨ (τ.1 26 0 (30 * a + j) < 0) ∨ (τ.1 15 0 1 < τ.1 26 0 (30 * a + j)))) : ∀ n k : Nat, k + n = 31 → k ≤ j → L_MO_ready_105 n τ (nI a) (nI k) = (4, τ) := by
  intro n
  induction n with
  | zero => intro k h1 h2; omega
  | succ n ih =>
    intro k h1 h2
    have hk : k < 30 := by omega
    have c9 : ¬ (30 : Int32) ≤ nI k := fun q => by
      rw [Int32.le_iff_toInt_le, nI_toInt (by omega)] at q
      have hN : (30 : Int32).toInt = 30 := rfl
      omega
    have hne : ((S_MO_isNeeded τ (nI a) (nI k) = 0) ∨ (τ.1 26 0 (30 * a + k) < 0) ∨ (τ.1 15 0 1 < τ.1 26 0 (30 * a + k))) → k + 1 ≤ j := fun q => by
      rcases Nat.lt_or_ge k j with g | g
      · exact g
      · have g2 : k = j := by omega
        rw [g2] at q
        exact absurd q hC
    rw [L_MO_ready_105, if_neg c9, ix_30 ha hk, nI_1]
    by_cases z0 : S_MO_isNeeded τ (nI a) (nI k) = 0
    · rw [if_pos z0]
      exact ih (k + 1) (by omega) (hne (Or.inl z0))
    · rw [if_neg z0]
      by_cases z1 : τ.1 26 0 (30 * a + k) < 0
      · rw [if_pos z1]
        exact ih (k + 1) (by omega) (hne (Or.inr (Or.inl z1)))
      · rw [if_neg z1]
        by_cases z2 : τ.1 15 0 1 < τ.1 26 0 (30 * a + k)
        · rw [if_pos z2]
          exact ih (k + 1) (by omega) (hne (Or.inr (Or.inr (z2))))
        · rw [if_neg z2]
          try rfl
theorem m5_e {τ : XS} {a : Nat} (ha : a < 16) (hall : ∀ j, j < 30 → (S_MO_isNeeded τ (nI a) (nI j) = 0) ∨ (τ.1 17 0 j ≤ τ.1 27 0 (30 * a + j))) : ∀ n k : Nat, k + n = 31 → k < 31 → L_MO_ready_162 n τ (nI a) (nI k) = (if S_MO_isBeyond τ (nI a) 0 = 0 then (if S_MO_isBeyond τ (nI a) 1 = 0 then (0, τ) else (6, τ)) else (6, τ)) := by
  intro n
  induction n with
  | zero => intro k h1 h2; omega
  | succ n ih =>
    intro k h1 h2
    rw [L_MO_ready_162]
    by_cases c9 : (30 : Int32) ≤ nI k
    · rw [if_pos c9]
    · have hk : k < 30 := x_klt (b := 30) rfl (by decide) (by omega) rfl c9
      rw [if_neg c9, ix_1 (a := k) (by omega), ix_30 ha hk, nI_1]
      by_cases z0 : S_MO_isNeeded τ (nI a) (nI k) = 0
      · rw [if_pos z0]
        exact ih (k + 1) (by omega) (by omega)
      · rw [if_neg z0]
        by_cases z1 : τ.1 17 0 k ≤ τ.1 27 0 (30 * a + k)
        · rw [if_pos z1]
          exact ih (k + 1) (by omega) (by omega)
        · rw [if_neg z1]
          exact absurd (hall k hk) (by simp only [z0, z1, or_self, not_false_eq_true])
theorem m5_f {τ : XS} {a : Nat} (ha : a < 16) {j : Nat} (hj : j < 30) (hC : ¬ ((S_MO_isNeeded τ (nI a) (nI j) = 0) ∨ (τ.1 17 0 j ≤ τ.1 27 0 (30 * a + j)))) : ∀ n k : Nat, k + n = 31 → k ≤ j → L_MO_ready_162 n τ (nI a) (nI k) = (5, τ) := by
  intro n
  induction n with
  | zero => intro k h1 h2; omega
  | succ n ih =>
    intro k h1 h2
    have hk : k < 30 := by omega
    have c9 : ¬ (30 : Int32) ≤ nI k := fun q => by
      rw [Int32.le_iff_toInt_le, nI_toInt (by omega)] at q
      have hN : (30 : Int32).toInt = 30 := rfl
      omega
    have hne : ((S_MO_isNeeded τ (nI a) (nI k) = 0) ∨ (τ.1 17 0 k ≤ τ.1 27 0 (30 * a + k))) → k + 1 ≤ j := fun q => by
      rcases Nat.lt_or_ge k j with g | g
      · exact g
      · have g2 : k = j := by omega
        rw [g2] at q
        exact absurd q hC
    rw [L_MO_ready_162, if_neg c9, ix_1 (a := k) (by omega), ix_30 ha hk, nI_1]
    by_cases z0 : S_MO_isNeeded τ (nI a) (nI k) = 0
    · rw [if_pos z0]
      exact ih (k + 1) (by omega) (hne (Or.inl z0))
    · rw [if_neg z0]
      by_cases z1 : τ.1 17 0 k ≤ τ.1 27 0 (30 * a + k)
      · rw [if_pos z1]
        exact ih (k + 1) (by omega) (hne (Or.inr (z1)))
      · rw [if_neg z1]
        try rfl
theorem m3_e {τ : XS} {a : Nat} (ha : a < 16) (hall : ∀ j, j < 8 → (τ.1 25 0 (8 * a + j) = 0)) : ∀ n k : Nat, k + n = 9 → k < 9 → L_MO_ready_75 n τ (nI a) (nI k) = L_MO_ready_105 31 τ (nI a) 0 := by
  intro n
  induction n with
  | zero => intro k h1 h2; omega
  | succ n ih =>
    intro k h1 h2
    rw [L_MO_ready_75]
    by_cases c9 : (8 : Int32) ≤ nI k
    · rw [if_pos c9]
    · have hk : k < 8 := x_klt (b := 8) rfl (by decide) (by omega) rfl c9
      rw [if_neg c9, ix_8 ha hk, nI_1]
      by_cases z0 : τ.1 25 0 (8 * a + k) = 0
      · rw [if_pos z0]
        exact ih (k + 1) (by omega) (by omega)
      · rw [if_neg z0]
        exact absurd (hall k hk) (by simp only [z0, or_self, not_false_eq_true])
theorem m3_f {τ : XS} {a : Nat} (ha : a < 16) {j : Nat} (hj : j < 8) (hC : ¬ ((τ.1 25 0 (8 * a + j) = 0))) : ∀ n k : Nat, k + n = 9 → k ≤ j → L_MO_ready_75 n τ (nI a) (nI k) = (3, τ) := by
  intro n
  induction n with
  | zero => intro k h1 h2; omega
  | succ n ih =>
    intro k h1 h2
    have hk : k < 8 := by omega
    have c9 : ¬ (8 : Int32) ≤ nI k := fun q => by
      rw [Int32.le_iff_toInt_le, nI_toInt (by omega)] at q
      have hN : (8 : Int32).toInt = 8 := rfl
      omega
    have hne : ((τ.1 25 0 (8 * a + k) = 0)) → k + 1 ≤ j := fun q => by
      rcases Nat.lt_or_ge k j with g | g
      · exact g
      · have g2 : k = j := by omega
        rw [g2] at q
        exact absurd q hC
    rw [L_MO_ready_75, if_neg c9, ix_8 ha hk, nI_1]
    by_cases z0 : τ.1 25 0 (8 * a + k) = 0
    · rw [if_pos z0]
      exact ih (k + 1) (by omega) (hne (z0))
    · rw [if_neg z0]
      try rfl
theorem m2_e {τ : XS} {a : Nat} (hall : ∀ j, j < 240 → (S_MO_missingOf τ (nI a) (nI j) ≤ 0)) : ∀ n k : Nat, k + n = 241 → k < 241 → L_MO_ready_49 n τ (nI a) (nI k) = L_MO_ready_75 9 τ (nI a) 0 := by
  intro n
  induction n with
  | zero => intro k h1 h2; omega
  | succ n ih =>
    intro k h1 h2
    rw [L_MO_ready_49]
    by_cases c9 : (240 : Int32) ≤ nI k
    · rw [if_pos c9]
    · have hk : k < 240 := x_klt (b := 240) rfl (by decide) (by omega) rfl c9
      rw [if_neg c9, nI_1]
      by_cases z0 : S_MO_missingOf τ (nI a) (nI k) ≤ 0
      · rw [if_pos z0]
        exact ih (k + 1) (by omega) (by omega)
      · rw [if_neg z0]
        exact absurd (hall k hk) (by simp only [z0, or_self, not_false_eq_true])
theorem m2_f {τ : XS} {a : Nat} {j : Nat} (hj : j < 240) (hC : ¬ ((S_MO_missingOf τ (nI a) (nI j) ≤ 0))) : ∀ n k : Nat, k + n = 241 → k ≤ j → L_MO_ready_49 n τ (nI a) (nI k) = (2, τ) := by
  intro n
  induction n with
  | zero => intro k h1 h2; omega
  | succ n ih =>
    intro k h1 h2
    have hk : k < 240 := by omega
    have c9 : ¬ (240 : Int32) ≤ nI k := fun q => by
      rw [Int32.le_iff_toInt_le, nI_toInt (by omega)] at q
      have hN : (240 : Int32).toInt = 240 := rfl
      omega
    have hne : ((S_MO_missingOf τ (nI a) (nI k) ≤ 0)) → k + 1 ≤ j := fun q => by
      rcases Nat.lt_or_ge k j with g | g
      · exact g
      · have g2 : k = j := by omega
        rw [g2] at q
        exact absurd q hC
    rw [L_MO_ready_49, if_neg c9, nI_1]
    by_cases z0 : S_MO_missingOf τ (nI a) (nI k) ≤ 0
    · rw [if_pos z0]
      exact ih (k + 1) (by omega) (hne (z0))
    · rw [if_neg z0]
      try rfl
theorem nd_1 {τ : XS} {v it : Int32} : ∀ n k : Nat, k + n = 9 → k < 9 → L_MO_isNeeded n τ v it 1 (nI k) = 1 := by
  intro n
  induction n with
  | zero => intro k h1 h2; omega
  | succ n ih =>
    intro k h1 h2
    rw [L_MO_isNeeded]
    by_cases c9 : (8 : Int32) ≤ nI k
    · rw [if_pos c9]
    · have hk : k < 8 := x_klt (b := 8) rfl (by decide) (by omega) rfl c9
      rw [if_neg c9, if_neg i1n0, nI_1]
      exact ih (k + 1) (by omega) (by omega)
theorem nd_e {τ : XS} {a K i : Nat} (ha : a < 16) (hK : K < 6) (hi : i < 30) (e : τ.1 19 0 a = nI K) (hall : ∀ j, j < 8 → τ.1 29 0 (240 * K + (30 * j + i)) ≤ 0) : ∀ n k : Nat, k + n = 9 → k < 9 → L_MO_isNeeded n τ (nI a) (nI i) 0 (nI k) = 0 := by
  intro n
  induction n with
  | zero => intro k h1 h2; omega
  | succ n ih =>
    intro k h1 h2
    rw [L_MO_isNeeded]
    by_cases c9 : (8 : Int32) ≤ nI k
    · rw [if_pos c9]
    · have hk : k < 8 := x_klt (b := 8) rfl (by decide) (by omega) rfl c9
      rw [if_neg c9, if_pos rfl, ix_1 (a := a) (by omega), e, ix_c3 (show K < 16 by omega) hk hi, if_pos (hall k hk), nI_1]
      exact ih (k + 1) (by omega) (by omega)
theorem nd_f {τ : XS} {a K i j : Nat} (ha : a < 16) (hK : K < 6) (hi : i < 30) (e : τ.1 19 0 a = nI K) (hj : j < 8) (hC : ¬ τ.1 29 0 (240 * K + (30 * j + i)) ≤ 0) : ∀ n k : Nat, k + n = 9 → k ≤ j → L_MO_isNeeded n τ (nI a) (nI i) 0 (nI k) = 1 := by
  intro n
  induction n with
  | zero => intro k h1 h2; omega
  | succ n ih =>
    intro k h1 h2
    have hk : k < 8 := by omega
    have c9 : ¬ (8 : Int32) ≤ nI k := fun q => by
      rw [Int32.le_iff_toInt_le, nI_toInt (by omega)] at q
      have hN : (8 : Int32).toInt = 8 := rfl
      omega
    rw [L_MO_isNeeded, if_neg c9, if_pos rfl, ix_1 (a := a) (by omega), e, ix_c3 (show K < 16 by omega) hk hi, nI_1]
    by_cases z : τ.1 29 0 (240 * K + (30 * k + i)) ≤ 0
    · rw [if_pos z]
      refine ih (k + 1) (by omega) ?_
      rcases Nat.lt_or_ge k j with g | g
      · exact g
      · have g2 : k = j := by omega
        rw [g2] at z
        exact absurd z hC
    · rw [if_neg z]
      exact nd_1 n (k + 1) (by omega) (by omega)
theorem nd_iff {τ : XS} {a K i : Nat} (ha : a < 16) (hK : K < 6) (hi : i < 30) (e : τ.1 19 0 a = nI K) : S_MO_isNeeded τ (nI a) (nI i) = 0 ↔ ∀ j, j < 8 → τ.1 29 0 (240 * K + (30 * j + i)) ≤ 0 := by
  constructor
  · intro q
    refine Classical.byContradiction fun z => ?_
    obtain ⟨j, hj, hC, -⟩ := least z
    have := nd_f ha hK hi e hj hC 9 0 rfl (by omega)
    exact absurd (this.symm.trans q) (by decide)
  · intro q
    exact nd_e ha hK hi e q 9 0 rfl (by decide)
theorem mc_e {σ : XS} {a K : Nat} (hall : ∀ j, j < 240 → S_VE_lackOf σ a (nI j) (σ.1 5 K j) ≤ 0) : ∀ n k : Nat, k + n = 241 → k < 241 → L_VE_missingCell n σ a K 0 0 (nI k) = -1 := by
  intro n
  induction n with
  | zero => intro k h1 h2; omega
  | succ n ih =>
    intro k h1 h2
    rw [L_VE_missingCell]
    by_cases c9 : (240 : Int32) ≤ nI k
    · rw [if_pos c9]
    · have hk : k < 240 := x_klt (b := 240) rfl (by decide) (by omega) rfl c9
      rw [if_neg c9, ix_1 (a := k) (by omega), if_pos (hall k hk), nI_1]
      exact ih (k + 1) (by omega) (by omega)
theorem mc_f {σ : XS} {a K j : Nat} (hj : j < 240) (hC : ¬ S_VE_lackOf σ a (nI j) (σ.1 5 K j) ≤ 0) : ∀ n k : Nat, k + n = 241 → k ≤ j → ¬ L_VE_missingCell n σ a K 0 0 (nI k) = -1 := by
  intro n
  induction n with
  | zero => intro k h1 h2; omega
  | succ n ih =>
    intro k h1 h2
    have hk : k < 240 := by omega
    have c9 : ¬ (240 : Int32) ≤ nI k := fun q => by
      rw [Int32.le_iff_toInt_le, nI_toInt (by omega)] at q
      have hN : (240 : Int32).toInt = 240 := rfl
      omega
    rw [L_VE_missingCell, if_neg c9, ix_1 (a := k) (by omega), nI_1]
    by_cases z : S_VE_lackOf σ a (nI k) (σ.1 5 K k) ≤ 0
    · rw [if_pos z]
      refine ih (k + 1) (by omega) ?_
      rcases Nat.lt_or_ge k j with g | g
      · exact g
      · have g2 : k = j := by omega
        rw [g2] at z
        exact absurd z hC
    · rw [if_neg z, if_pos rfl]
      intro q
      have q := congrArg Int32.toInt q
      rw [nI_toInt (by omega)] at q
      have n1 : (-1 : Int32).toInt = -1 := rfl
      omega
theorem ve_by {t : Nat} {σ : XS} (h : Rel t σ) {a : Nat} (ha : a < 16) (hav : (a : Int) < (σ.1 15 0 6).toInt) : (S_VE_exceeds σ a (S_VE_frontMoment σ a) (σ.1 9 a 7) = 0 ↔ GG σ a ≤ LF σ a) ∧ (S_VE_exceeds σ a (S_VE_rearMoment σ a) (σ.1 9 a 8) = 0 ↔ MM σ a ≤ LR σ a) := by
  have hba := h.bar a ha hav
  have hbc : 0 ≤ (σ.1 9 a 6).toInt ∧ (σ.1 9 a 6).toInt ≤ 8000 := by rw [h.ba a ha hav]; omega
  have k3 := ve_ex (σ := σ) (a := a) (mo := S_VE_frontMoment σ a) (lim := σ.1 9 a 7) hbc (by rw [h.fr a ha]; exact h.frr a ha)
  have k4 := ve_ex (σ := σ) (a := a) (mo := S_VE_rearMoment σ a) (lim := σ.1 9 a 8) hbc (by rw [h.re a ha]; exact h.rer a ha)
  rw [ve_fm h ha hav, show (σ.1 9 a 7).toInt * (σ.1 9 a 6).toInt = LF σ a by unfold LF; rw [h.fr a ha, h.ba a ha hav]] at k3
  rw [show (S_VE_rearMoment σ a).toInt = MM σ a from h.mo a ha, show (σ.1 9 a 8).toInt * (σ.1 9 a 6).toInt = LR σ a by unfold LR; rw [h.re a ha, h.ba a ha hav]] at k4
  exact ⟨k3, k4⟩
theorem ckd {t : Nat} {σ : XS} (h : Rel t σ) {a : Nat} (ha : a < 16) (hav : (a : Int) < (σ.1 15 0 6).toInt) : (σ.1 9 a 9 = σ.1 0 0 7 ∧ σ.1 9 a 10 = σ.1 0 0 8) ↔ σ.1 23 0 a = 3 * σ.1 15 0 1 + σ.1 15 0 2 := by
  have hd := h.dyr
  have hs := h.shr
  have n3 : (3 : Int32).toInt = 3 := rfl
  have f : ∀ x y : Int32, (0 ≤ x.toInt ∧ x.toInt ≤ 9999) → (0 ≤ y.toInt ∧ y.toInt ≤ 2) → (3 * x + y).toInt = 3 * x.toInt + y.toInt := fun x y hx hy => by
    have e : (3 * x).toInt = 3 * x.toInt := by
      rw [i_mul (by rw [n3]; omega) (by rw [n3]; omega), n3]
    rw [i_add (by rw [e]; omega) (by rw [e]; omega), e]
  have f0 := f _ _ hd hs
  rw [h.dy, h.sh]
  rcases h.ck a ha hav with ⟨e1, e2, e3⟩ | ⟨⟨r1, r2⟩, e1⟩
  · have m1 : (-1 : Int32).toInt = -1 := rfl
    constructor
    · rintro ⟨q, -⟩
      rw [← q, e2] at hd
      omega
    · intro q
      have q := congrArg Int32.toInt q
      rw [e1, f0] at q
      omega
  · constructor
    · rintro ⟨q1, q2⟩
      rw [e1, q1, q2]
    · intro q
      have q := congrArg Int32.toInt q
      rw [e1, f0, f _ _ r1 r2] at q
      exact ⟨Int32.toInt_inj.mp (by omega), Int32.toInt_inj.mp (by omega)⟩
/-- the value of ready, on both sides -/
theorem rd_all {t : Nat} {σ : XS} (h : Rel t σ) {a : Nat} (ha : a < 16) (hav : (a : Int) < (σ.1 15 0 6).toInt) : ∃ r : Int32, S_LC_ready σ (nI a) = .inl r ∧ ∀ w : Int64, S_MO_ready (xuL σ 31 0 0 w) (nI a) = (r, xuI (xuL σ 31 0 0 w) 15 0 0 0) := by
  obtain ⟨K, hK, eK, eC⟩ := h.K ha
  have hv : isv σ (nI a) := ⟨by rw [nI_toInt (by omega)]; omega, by rw [nI_toInt (by omega)]; exact hav⟩
  have cC := kv_p h hv
  have cM : ∀ w : Int64, S_MO_isVehicle (xuL σ 31 0 0 w) (nI a) = 1 := fun w => iv_p (σ := xuL σ 31 0 0 w) h.nvr hv
  have mv : ∀ w : Int64, MV σ (xuI (xuL σ 31 0 0 w) 15 0 0 0) a K := fun w => h.mv ha hK eK
  have e19 : ∀ w : Int64, (xuI (xuL σ 31 0 0 w) 15 0 0 0).1 19 0 a = nI K := fun w => eK
  have i1 : (nI a).toNatClampNeg = a := ix_1 (by omega)
  have hck := ckd h ha hav
  by_cases c1 : σ.1 9 a 9 = σ.1 0 0 7 ∧ σ.1 9 a 10 = σ.1 0 0 8
  · have d1 := hck.mp c1
    have M1 : ∀ w : Int64, S_MO_ready (xuL σ 31 0 0 w) (nI a) = L_MO_ready_49 241 (xuI (xuL σ 31 0 0 w) 15 0 0 0) (nI a) 0 := fun w => by
      unfold S_MO_ready
      rw [cM w, if_neg i1n0, thr_0, i1]
      exact if_pos d1
    by_cases c2 : ∀ j, j < 240 → S_VE_lackOf σ a (nI j) (σ.1 5 K j) ≤ 0
    · have x2 : S_VE_missingCell σ a K 0 = -1 := mc_e c2 241 0 rfl (by decide)
      have M2 : ∀ w : Int64, S_MO_ready (xuL σ 31 0 0 w) (nI a) = L_MO_ready_75 9 (xuI (xuL σ 31 0 0 w) 15 0 0 0) (nI a) 0 := fun w => (M1 w).trans (m2_e (fun j hj => by rw [lk (mv w) ha hK hj]; exact c2 j hj) 241 0 rfl (by decide))
      by_cases c3 : ∀ j, j < 8 → σ.1 11 a j = 0
      · have x3 : S_VE_hasBrokenSeal σ a = 0 := vb_e c3 9 0 rfl (by decide)
        have M3 : ∀ w : Int64, S_MO_ready (xuL σ 31 0 0 w) (nI a) = L_MO_ready_105 31 (xuI (xuL σ 31 0 0 w) 15 0 0 0) (nI a) 0 := fun w => (M2 w).trans (m3_e (τ := xuI (xuL σ 31 0 0 w) 15 0 0 0) ha (fun j hj => (h.se a ha j hj).symm.trans (c3 j hj)) 9 0 rfl (by decide))
        by_cases c4 : ∀ j, j < 240 → (σ.1 5 K j ≤ 0) ∨ (σ.1 13 a (j % 30) = -1) ∨ (σ.1 0 0 7 < σ.1 13 a (j % 30))
        · have x4 : S_VE_needsPastItem σ a K (σ.1 0 0 7) = 0 := vp_e c4 241 0 rfl (by decide)
          have M4 : ∀ w : Int64, S_MO_ready (xuL σ 31 0 0 w) (nI a) = L_MO_ready_162 31 (xuI (xuL σ 31 0 0 w) 15 0 0 0) (nI a) 0 := fun w => (M3 w).trans (m4_e ha (fun i hi => by
            have e26 : (xuI (xuL σ 31 0 0 w) 15 0 0 0).1 26 0 (30 * a + i) = σ.1 13 a i := (h.en a ha hav i hi).symm
            rw [nd_iff ha hK hi (e19 w), e26]
            have hr := h.enr a ha i hi
            by_cases z1 : σ.1 13 a i < 0
            · exact Or.inr (Or.inl z1)
            · by_cases z2 : σ.1 0 0 7 < σ.1 13 a i
              · exact Or.inr (Or.inr (by rw [h.dy] at z2; exact z2))
              · refine Or.inl fun j hj => ?_
                have q := c4 (30 * j + i) (by omega)
                rw [show (30 * j + i) % 30 = i by omega] at q
                rcases q with q | q | q
                · have e29 : (xuI (xuL σ 31 0 0 w) 15 0 0 0).1 29 0 (240 * K + (30 * j + i)) = σ.1 5 K (30 * j + i) := (h.ne K hK _ (by omega)).symm
                  rw [e29]
                  exact q
                · exact absurd (by rw [q]; decide) z1
                · exact absurd q z2) 31 0 rfl (by decide))
          by_cases c5 : ∀ j, j < 240 → (σ.1 5 K j ≤ 0) ∨ (σ.1 2 0 (j % 30) ≤ σ.1 14 a (j % 30))
          · have x5 : S_VE_needsWeakItem σ a K = 0 := vw_e c5 241 0 rfl (by decide)
            have M5 : ∀ w : Int64, S_MO_ready (xuL σ 31 0 0 w) (nI a) = (if S_MO_isBeyond (xuI (xuL σ 31 0 0 w) 15 0 0 0) (nI a) 0 = 0 then (if S_MO_isBeyond (xuI (xuL σ 31 0 0 w) 15 0 0 0) (nI a) 1 = 0 then (0, xuI (xuL σ 31 0 0 w) 15 0 0 0) else (6, xuI (xuL σ 31 0 0 w) 15 0 0 0)) else (6, xuI (xuL σ 31 0 0 w) 15 0 0 0)) := fun w => (M4 w).trans (m5_e ha (fun i hi => by
              have e27 : (xuI (xuL σ 31 0 0 w) 15 0 0 0).1 27 0 (30 * a + i) = σ.1 14 a i := (h.bt a ha hav i hi).symm
              have e17 : (xuI (xuL σ 31 0 0 w) 15 0 0 0).1 17 0 i = σ.1 2 0 i := (h.le i hi).symm
              rw [nd_iff ha hK hi (e19 w), e27, e17]
              by_cases z1 : σ.1 2 0 i ≤ σ.1 14 a i
              · exact Or.inr z1
              · refine Or.inl fun j hj => ?_
                have q := c5 (30 * j + i) (by omega)
                rw [show (30 * j + i) % 30 = i by omega] at q
                rcases q with q | q
                · have e29 : (xuI (xuL σ 31 0 0 w) 15 0 0 0).1 29 0 (240 * K + (30 * j + i)) = σ.1 5 K (30 * j + i) := (h.ne K hK _ (by omega)).symm
                  rw [e29]
                  exact q
                · exact absurd q z1) 31 0 rfl (by decide))
            have hy := ve_by h ha hav
            have mbd := h.mb ha hav
            have hbb : 0 ≤ (σ.1 20 0 a).toInt ∧ (σ.1 20 0 a).toInt ≤ 8000 := by
              have := h.bar a ha hav
              omega
            have y0 : ∀ w : Int64, S_MO_isBeyond (xuI (xuL σ 31 0 0 w) 15 0 0 0) (nI a) 0 = 0 ↔ GG σ a ≤ LF σ a := fun w => mo_y0 (σ := xuI (xuL σ 31 0 0 w) 15 0 0 0) h.bds ha hbb (h.frr a ha)
            have y1 : ∀ w : Int64, S_MO_isBeyond (xuI (xuL σ 31 0 0 w) 15 0 0 0) (nI a) 1 = 0 ↔ MM σ a ≤ LR σ a := fun w => mo_y1 (σ := xuI (xuL σ 31 0 0 w) 15 0 0 0) h.bds ha hbb (h.rer a ha)
            by_cases c6 : GG σ a ≤ LF σ a
            · by_cases c7 : MM σ a ≤ LR σ a
              · refine ⟨0, ?_, fun w => ?_⟩
                · simp only [S_LC_ready, cC, xbp_l, i1, eC, c1.1, c1.2, x2, x3, x4, x5, S_VE_isBeyond, hy.1.mpr c6, hy.2.mpr c7, if_true]
                · rw [M5 w, if_pos ((y0 w).mpr c6), if_pos ((y1 w).mpr c7)]
              · refine ⟨6, ?_, fun w => ?_⟩
                · simp only [S_LC_ready, cC, xbp_l, i1, eC, c1.1, c1.2, x2, x3, x4, x5, S_VE_isBeyond, hy.1.mpr c6, mt hy.2.mp c7, if_true, if_false, i1n0]
                · rw [M5 w, if_pos ((y0 w).mpr c6), if_neg (mt (y1 w).mp c7)]
            · refine ⟨6, ?_, fun w => ?_⟩
              · simp only [S_LC_ready, cC, xbp_l, i1, eC, c1.1, c1.2, x2, x3, x4, x5, S_VE_isBeyond, mt hy.1.mp c6, if_true, if_false, i1n0]
              · rw [M5 w, if_neg (mt (y0 w).mp c6)]
          · obtain ⟨j, hj, hC, -⟩ := least c5
            have x5 : S_VE_needsWeakItem σ a K = 1 := vw_f hj hC 241 0 rfl (by omega)
            refine ⟨5, ?_, fun w => (M4 w).trans (m5_f ha (j := j % 30) (by omega) (fun z => hC ?_) 31 0 rfl (by omega))⟩
            · simp only [S_LC_ready, cC, xbp_l, i1, eC, c1.1, c1.2, x2, x3, x4, x5, if_true, if_false, i1n0]
            · have e27 : (xuI (xuL σ 31 0 0 w) 15 0 0 0).1 27 0 (30 * a + j % 30) = σ.1 14 a (j % 30) := (h.bt a ha hav _ (by omega)).symm
              have e17 : (xuI (xuL σ 31 0 0 w) 15 0 0 0).1 17 0 (j % 30) = σ.1 2 0 (j % 30) := (h.le _ (by omega)).symm
              rw [nd_iff ha hK (by omega) (e19 w), e27, e17] at z
              rcases z with z | z
              · refine Or.inl ?_
                have z := z (j / 30) (by omega)
                rw [show 30 * (j / 30) + j % 30 = j by omega] at z
                have e29 : (xuI (xuL σ 31 0 0 w) 15 0 0 0).1 29 0 (240 * K + j) = σ.1 5 K j := (h.ne K hK _ hj).symm
                rw [e29] at z
                exact z
              · exact Or.inr z
        · obtain ⟨j, hj, hC, -⟩ := least c4
          have x4 : S_VE_needsPastItem σ a K (σ.1 0 0 7) = 1 := vp_f hj hC 241 0 rfl (by omega)
          refine ⟨4, ?_, fun w => (M3 w).trans (m4_f ha (j := j % 30) (by omega) (fun z => hC ?_) 31 0 rfl (by omega))⟩
          · simp only [S_LC_ready, cC, xbp_l, i1, eC, c1.1, c1.2, x2, x3, x4, if_true, if_false, i1n0]
          · have e26 : (xuI (xuL σ 31 0 0 w) 15 0 0 0).1 26 0 (30 * a + j % 30) = σ.1 13 a (j % 30) := (h.en a ha hav _ (by omega)).symm
            rw [nd_iff ha hK (by omega) (e19 w), e26] at z
            rcases z with z | z | z
            · refine Or.inl ?_
              have z := z (j / 30) (by omega)
              rw [show 30 * (j / 30) + j % 30 = j by omega] at z
              have e29 : (xuI (xuL σ 31 0 0 w) 15 0 0 0).1 29 0 (240 * K + j) = σ.1 5 K j := (h.ne K hK _ hj).symm
              rw [e29] at z
              exact z
            · refine Or.inr (Or.inl (Int32.toInt_inj.mp ?_))
              have hr := h.enr a ha (j % 30) (by omega)
              rw [Int32.lt_iff_toInt_lt] at z
              have n0 : (0 : Int32).toInt = 0 := rfl
              have m1 : (-1 : Int32).toInt = -1 := rfl
              omega
            · refine Or.inr (Or.inr ?_)
              rw [h.dy]
              exact z
      · obtain ⟨j, hj, hC, -⟩ := least c3
        have x3 : S_VE_hasBrokenSeal σ a = 1 := vb_f hj hC 9 0 rfl (by omega)
        refine ⟨3, ?_, fun w => (M2 w).trans (m3_f (τ := xuI (xuL σ 31 0 0 w) 15 0 0 0) ha hj (fun z => hC ?_) 9 0 rfl (by omega))⟩
        · simp only [S_LC_ready, cC, xbp_l, i1, eC, c1.1, c1.2, x2, x3, if_true, if_false, i1n0]
        · exact (h.se a ha j hj).trans z
    · obtain ⟨j, hj, hC, -⟩ := least c2
      have x2 : ¬ S_VE_missingCell σ a K 0 = -1 := mc_f hj hC 241 0 rfl (by omega)
      refine ⟨2, ?_, fun w => (M1 w).trans (m2_f hj (fun z => hC (by rw [lk (mv w) ha hK hj] at z; exact z)) 241 0 rfl (by omega))⟩
      simp only [S_LC_ready, cC, xbp_l, i1, eC, c1.1, c1.2, x2, if_true, if_false]
  · have d1 := mt hck.mpr c1
    refine ⟨1, ?_, fun w => ?_⟩
    · by_cases q1 : σ.1 9 a 9 = σ.1 0 0 7
      · have q2 : ¬ σ.1 9 a 10 = σ.1 0 0 8 := fun q => c1 ⟨q1, q⟩
        simp only [S_LC_ready, cC, xbp_l, i1, q1, q2, if_true, if_false]
      · simp only [S_LC_ready, cC, xbp_l, i1, q1, if_false]
    · unfold S_MO_ready
      rw [cM w, if_neg i1n0, thr_0, i1]
      exact if_neg d1
set_option maxHeartbeats 4000000 in
theorem r_ready {t : Nat} {σ : XS} (h : Rel t σ) (ht : t < 512) (v : Int32) : Rel (t + 1) (S_MO_ready (S_LW_ready σ v).2 v).2 ∧ S_MO_thrown (S_MO_ready (S_LW_ready σ v).2 v).2 = (S_LW_ready σ v).1 ∧ ((S_LW_ready σ v).1 = 0 → (S_MO_ready (S_LW_ready σ v).2 v).2.2 31 0 0 = ((S_MO_ready (S_LW_ready σ v).2 v).1).toInt64) := by
  by_cases hv : isv σ v
  · obtain ⟨a, ha, hav, rfl⟩ := isv_of h hv
    obtain ⟨r, z1, z2⟩ := rd_all h ha hav
    have e1 : S_LW_ready σ (nI a) = (0, xuL σ 31 0 0 r.toInt64) := by
      simp only [S_LW_ready, z1, xca_l]
    have e2 := z2 r.toInt64
    rw [e1]
    show Rel (t + 1) (S_MO_ready (xuL σ 31 0 0 r.toInt64) (nI a)).2 ∧ S_MO_thrown (S_MO_ready (xuL σ 31 0 0 r.toInt64) (nI a)).2 = 0 ∧ ((0 : Int32) = 0 → _)
    rw [e2]
    exact ⟨(h.out _).thr 0, rfl, fun _ => rfl⟩
  · have e1 : S_LW_ready σ v = (1, σ) := by
      simp only [S_LW_ready, S_LC_ready, kv_n h hv, ex_aa, xbp_l, xbp_r, xca_l, xca_r, i1n0, if_true, if_false, ite_self]
      try rfl
    have e2 : S_MO_ready σ v = (0, xuI σ 15 0 0 1) := by
      simp only [S_MO_ready, iv_n (σ := σ) h.nvr hv, thr_1, xbp_l, xbp_r, xca_l, xca_r, i1n0, if_true, if_false, ite_self]
      try rfl
    rw [e1]
    show Rel (t + 1) (S_MO_ready σ v).2 ∧ S_MO_thrown (S_MO_ready σ v).2 = 1 ∧ ((1 : Int32) = 0 → _)
    rw [e2]
    exact ⟨h.thr 1, rfl, fun q => absurd q (by decide)⟩
