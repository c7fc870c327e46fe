theorem least {P : Nat → Prop} {N : Nat} (h : ¬ ∀ j, j < N → P j) : ∃ j, j < N ∧ ¬ P j ∧ ∀ i, i < j → P i := by
  have h1 : ∃ k, k < N ∧ ¬ P k := Classical.byContradiction fun q => h fun j hj => Classical.byContradiction fun z => q ⟨j, hj, z⟩
  obtain ⟨k, ⟨hk, hp⟩, hl⟩ := pk_least (fun k => k < N ∧ ¬ P k) h1
  refine ⟨k, hk, hp, fun i hi => Classical.byContradiction fun z => hl i hi ⟨by omega, z⟩⟩
theorem i_z {x : Int32} (h : 0 ≤ x.toInt) : x ≤ 0 ↔ x = 0 := by
  rw [Int32.le_iff_toInt_le]
  have h0 : (0 : Int32).toInt = 0 := rfl
  constructor
  · intro q
    exact Int32.toInt_inj.mp (by omega)
  · intro q
    rw [q]
    exact Int.le_refl _
theorem ix_cellk (σ : XS) {b k : Nat} (hb : b < 8) (hk : k < 30) : (S_LC_cellOf σ (nI b) (nI k)).toNatClampNeg = 30 * b + k := ix_cell σ hb hk
theorem ve_em_e {σ : XS} {a b : Nat} (hb : b < 8) (hall : ∀ j, j < 30 → σ.1 12 a (30 * b + j) ≤ 0) : ∀ n k : Nat, k + n = 31 → k < 31 → L_VE_isEmpty n σ a (nI b) (nI k) = 1 := by
  intro n
  induction n with
  | zero => intro k h1 h2; omega
  | succ n ih =>
    intro k h1 h2
    rw [L_VE_isEmpty]
    by_cases c9 : (30 : Int32) ≤ nI k
    · rw [if_pos c9]
    · have hk : k < 30 := x_klt (b := 30) rfl (by decide) (by omega) rfl c9
      rw [if_neg c9, ix_cell σ hb hk, if_pos (hall k hk), nI_1]
      exact ih (k + 1) (by omega) (by omega)
theorem ve_em_f {σ : XS} {a b : Nat} (hb : b < 8) {j : Nat} (hj : j < 30) (hC : ¬ σ.1 12 a (30 * b + j) ≤ 0) (hbef : ∀ i, i < j → σ.1 12 a (30 * b + i) ≤ 0) : ∀ n k : Nat, k + n = 31 → k ≤ j → L_VE_isEmpty n σ a (nI b) (nI k) = 0 := by
  intro n
  induction n with
  | zero => intro k h1 h2; omega
  | succ n ih =>
    intro k h1 h2
    have hk : k < 30 := by omega
    have c9 : ¬ (30 : Int32) ≤ nI k := fun q => by
      rw [Int32.le_iff_toInt_le, nI_toInt (by omega)] at q
      have hN : (30 : Int32).toInt = 30 := rfl
      omega
    rw [L_VE_isEmpty, if_neg c9, ix_cell σ hb hk]
    by_cases e : k = j
    · subst e
      rw [if_neg hC]
    · rw [if_pos (hbef k (by omega)), nI_1]
      exact ih (k + 1) (by omega) (by omega)
theorem ve_ca_e {σ : XS} {a c : Nat} (hc : c < 30) (hall : ∀ j, j < 8 → σ.1 12 a (30 * j + c) ≤ 0) : ∀ n k : Nat, k + n = 9 → k < 9 → L_VE_carries n σ a (nI c) (nI k) = 0 := by
  intro n
  induction n with
  | zero => intro k h1 h2; omega
  | succ n ih =>
    intro k h1 h2
    rw [L_VE_carries]
    by_cases c9 : (8 : Int32) ≤ nI k
    · rw [if_pos c9]
    · have hk : k < 8 := x_klt (b := 8) rfl (by decide) (by omega) rfl c9
      rw [if_neg c9, ix_cell σ hk hc, if_pos (hall k hk), nI_1]
      exact ih (k + 1) (by omega) (by omega)
theorem ve_ca_f {σ : XS} {a c : Nat} (hc : c < 30) {j : Nat} (hj : j < 8) (hC : ¬ σ.1 12 a (30 * j + c) ≤ 0) (hbef : ∀ i, i < j → σ.1 12 a (30 * i + c) ≤ 0) : ∀ n k : Nat, k + n = 9 → k ≤ j → L_VE_carries n σ a (nI c) (nI k) = 1 := by
  intro n
  induction n with
  | zero => intro k h1 h2; omega
  | succ n ih =>
    intro k h1 h2
    have hk : k < 8 := by omega
    have c9 : ¬ (8 : Int32) ≤ nI k := fun q => by
      rw [Int32.le_iff_toInt_le, nI_toInt (by omega)] at q
      have hN : (8 : Int32).toInt = 8 := rfl
      omega
    rw [L_VE_carries, if_neg c9, ix_cell σ hk hc]
    by_cases e : k = j
    · subst e
      rw [if_neg hC]
    · rw [if_pos (hbef k (by omega)), nI_1]
      exact ih (k + 1) (by omega) (by omega)
theorem mo_em0 {σ : XS} {v cu : Int32} : ∀ n k : Nat, k + n = 31 → k < 31 → L_MO_isEmpty n σ v cu 0 (nI k) = 0 := by
  intro n
  induction n with
  | zero => intro k h1 h2; omega
  | succ n ih =>
    intro k h1 h2
    rw [L_MO_isEmpty]
    by_cases c9 : (30 : Int32) ≤ nI k
    · rw [if_pos c9]
    · have hk : k < 30 := x_klt (b := 30) rfl (by decide) (by omega) rfl c9
      rw [if_neg c9, if_pos rfl, nI_1]
      exact ih (k + 1) (by omega) (by omega)
theorem mo_em_e {σ : XS} {a b : Nat} (ha : a < 16) (hb : b < 8) (hall : ∀ j, j < 30 → σ.1 28 0 (240 * a + (30 * b + j)) = 0) : ∀ n k : Nat, k + n = 31 → k < 31 → L_MO_isEmpty n σ (nI a) (nI b) 1 (nI k) = 1 := by
  intro n
  induction n with
  | zero => intro k h1 h2; omega
  | succ n ih =>
    intro k h1 h2
    rw [L_MO_isEmpty]
    by_cases c9 : (30 : Int32) ≤ nI k
    · rw [if_pos c9]
    · have hk : k < 30 := x_klt (b := 30) rfl (by decide) (by omega) rfl c9
      rw [if_neg c9, if_neg i1n0, ix_c3 ha hb hk, if_pos (hall k hk), nI_1]
      exact ih (k + 1) (by omega) (by omega)
theorem mo_em_f {σ : XS} {a b j : Nat} (ha : a < 16) (hb : b < 8) (hj : j < 30) (hC : ¬ σ.1 28 0 (240 * a + (30 * b + j)) = 0) : ∀ n k : Nat, k + n = 31 → k ≤ j → L_MO_isEmpty n σ (nI a) (nI b) 1 (nI k) = 0 := by
  intro n
  induction n with
  | zero => intro k h1 h2; omega
  | succ n ih =>
    intro k h1 h2
    have hk : k < 30 := by omega
    have c9 : ¬ (30 : Int32) ≤ nI k := fun q => by
      rw [Int32.le_iff_toInt_le, nI_toInt (by omega)] at q
      have hN : (30 : Int32).toInt = 30 := rfl
      omega
    rw [L_MO_isEmpty, if_neg c9, if_neg i1n0, ix_c3 ha hb hk, nI_1]
    by_cases e : k = j
    · subst e
      rw [if_neg hC]
      exact mo_em0 n (k + 1) (by omega) (by omega)
    · by_cases z : σ.1 28 0 (240 * a + (30 * b + k)) = 0
      · rw [if_pos z]
        exact ih (k + 1) (by omega) (by omega)
      · rw [if_neg z]
        exact mo_em0 n (k + 1) (by omega) (by omega)
theorem em_p {t : Nat} {σ : XS} (h : Rel t σ) {a b : Nat} (ha : a < 16) (hb : b < 8) (hall : ∀ j, j < 30 → σ.1 28 0 (240 * a + (30 * b + j)) = 0) : S_VE_isEmpty σ a (nI b) = 1 := by
  unfold S_VE_isEmpty
  refine ve_em_e hb (fun j hj => ?_) 31 0 rfl (by decide)
  rw [h.co a ha _ (by omega), hall j hj]
  decide
theorem em_n {t : Nat} {σ : XS} (h : Rel t σ) {a b : Nat} (ha : a < 16) (hb : b < 8) (hall : ¬ ∀ j, j < 30 → σ.1 28 0 (240 * a + (30 * b + j)) = 0) : S_VE_isEmpty σ a (nI b) = 0 := by
  have g : ∀ j, j < 30 → (σ.1 12 a (30 * b + j) ≤ 0 ↔ σ.1 28 0 (240 * a + (30 * b + j)) = 0) := fun j hj => by
    rw [h.co a ha _ (by omega)]
    exact i_z (h.cor _ (by omega)).1
  obtain ⟨j, hj, hC, hbef⟩ := least hall
  unfold S_VE_isEmpty
  exact ve_em_f hb hj (fun q => hC ((g j hj).mp q)) (fun i hi => (g i (by omega)).mpr (hbef i hi)) 31 0 rfl (by omega)
theorem me_p {σ : XS} {a b : Nat} (ha : a < 16) (hb : b < 8) (hall : ∀ j, j < 30 → σ.1 28 0 (240 * a + (30 * b + j)) = 0) : S_MO_isEmpty σ (nI a) (nI b) = 1 := mo_em_e ha hb hall 31 0 rfl (by decide)
theorem me_n {σ : XS} {a b : Nat} (ha : a < 16) (hb : b < 8) (hall : ¬ ∀ j, j < 30 → σ.1 28 0 (240 * a + (30 * b + j)) = 0) : S_MO_isEmpty σ (nI a) (nI b) = 0 := by
  obtain ⟨j, hj, hC, -⟩ := least hall
  exact mo_em_f ha hb hj hC 31 0 rfl (by omega)
/-! sums -/
theorem isum_congr {f g : Nat → Int} {n : Nat} (h : ∀ j, j < n → f j = g j) : isum f n = isum g n := by
  induction n with
  | zero => rfl
  | succ n ih =>
    show isum f n + f n = isum g n + g n
    rw [ih (fun j hj => h j (by omega)), h n (by omega)]
theorem isum_upd {f g : Nat → Int} {n c : Nat} {d : Int} (hc : c < n) (hg : g c = f c + d) (h : ∀ j, j < n → j ≠ c → g j = f j) : isum g n = isum f n + d := by
  induction n with
  | zero => omega
  | succ n ih =>
    show isum g n + g n = isum f n + f n + d
    by_cases e : c = n
    · subst e
      rw [hg, isum_congr (f := g) (g := f) (fun j hj => h j (by omega) (by omega))]
      omega
    · rw [ih (by omega) (fun j hj hne => h j (by omega) hne), h n (by omega) (fun q => e q.symm)]
      omega
theorem isum_bd {f : Nat → Int} {lo hi : Int} {n : Nat} (h : ∀ j, j < n → lo ≤ f j ∧ f j ≤ hi) : lo * n ≤ isum f n ∧ isum f n ≤ hi * n := by
  induction n with
  | zero => exact ⟨by show lo * 0 ≤ 0; omega, by show (0 : Int) ≤ hi * 0; omega⟩
  | succ n ih =>
    have h1 := ih (fun j hj => h j (by omega))
    have h2 := h n (by omega)
    show lo * ((n + 1 : Nat) : Int) ≤ isum f n + f n ∧ isum f n + f n ≤ hi * ((n + 1 : Nat) : Int)
    have e1 : lo * ((n + 1 : Nat) : Int) = lo * n + lo := by
      rw [Int.natCast_add, Int.mul_add]
      omega
    have e2 : hi * ((n + 1 : Nat) : Int) = hi * n + hi := by
      rw [Int.natCast_add, Int.mul_add]
      omega
    omega
