/-! loads: what both sides reckon, over whole numbers -/
theorem mul_bd {x y X Y : Int} (h1 : 0 ≤ x) (h2 : x ≤ X) (h3 : 0 ≤ y) (h4 : y ≤ Y) : 0 ≤ x * y ∧ x * y ≤ X * Y := ⟨Int.mul_nonneg h1 h3, Int.mul_le_mul h2 h4 h3 (by omega)⟩
theorem mul_bd2 {x y X Y : Int} (h1 : 0 ≤ x) (h2 : x ≤ X) (h3 : -Y ≤ y) (h4 : y ≤ Y) : -(X * Y) ≤ x * y ∧ x * y ≤ X * Y := by
  rcases Int.le_total 0 y with q | q
  · have := mul_bd h1 h2 q h4
    omega
  · have := mul_bd h1 h2 (y := -y) (Y := Y) (by omega) (by omega)
    rw [Int.mul_neg] at this
    omega
def Bds (σ : XS) : Prop := (∀ i, i < 30 → 0 ≤ (σ.1 16 0 i).toInt ∧ (σ.1 16 0 i).toInt ≤ 500000) ∧ (∀ j, j < 3840 → 0 ≤ (σ.1 28 0 j).toInt ∧ (σ.1 28 0 j).toInt ≤ 198) ∧ ∀ j, j < 128 → -2000 ≤ (σ.1 24 0 j).toInt ∧ (σ.1 24 0 j).toInt ≤ 10000
theorem Rel.bds {t : Nat} {σ : XS} (h : Rel t σ) : Bds σ := ⟨h.wer, fun j hj => by have := h.cor j hj; omega, h.plr⟩
theorem gw_bd {σ : XS} (h : Bds σ) {a j : Nat} (ha : a < 16) (hj : j < 240) : 0 ≤ gw σ a j ∧ gw σ a j ≤ 99000000 := by
  have h1 := h.1 (j % 30) (by omega)
  have h2 := h.2.1 (240 * a + j) (by omega)
  exact mul_bd h1.1 h1.2 h2.1 h2.2
theorem gm_bd {σ : XS} (h : Bds σ) {a j : Nat} (ha : a < 16) (hj : j < 240) : -990000000000 ≤ gm σ a j ∧ gm σ a j ≤ 990000000000 := by
  have h1 := gw_bd h ha hj
  have h2 := h.2.2 (8 * a + j / 30) (by omega)
  exact mul_bd2 (Y := 10000) h1.1 h1.2 (by omega) h2.2
theorem sw_bd {σ : XS} (h : Bds σ) {a n : Nat} (ha : a < 16) (hn : n ≤ 240) : 0 ≤ isum (gw σ a) n ∧ isum (gw σ a) n ≤ 23760000000 := by
  have h1 := isum_bd (f := gw σ a) (lo := 0) (hi := 99000000) (n := n) (fun j hj => gw_bd h ha (by omega))
  omega
theorem sm_bd {σ : XS} (h : Bds σ) {a n : Nat} (ha : a < 16) (hn : n ≤ 240) : -237600000000000 ≤ isum (gm σ a) n ∧ isum (gm σ a) n ≤ 237600000000000 := by
  have h1 := isum_bd (f := gm σ a) (lo := -990000000000) (hi := 990000000000) (n := n) (fun j hj => gm_bd h ha (by omega))
  omega
theorem ix_rem {k : Nat} (hk : k < 240) : (nI k - nI k / (30 : Int32) * (30 : Int32)).toNatClampNeg = k % 30 := by
  show (nI k - nI k / nI 30 * nI 30).toNatClampNeg = _
  rw [pk_rem (by omega) (by decide) (by decide), ix_1 (by omega)]
theorem ix_div {k : Nat} (hk : k < 240) : (nI k / (30 : Int32)).toNatClampNeg = k / 30 := by
  show (nI k / nI 30).toNatClampNeg = _
  rw [pk_div (by omega) (by decide) (by decide), ix_1 (by omega)]
theorem ix_8d {a k : Nat} (ha : a < 16) (hk : k < 240) : ((8 : Int32) * nI a + nI k / (30 : Int32)).toNatClampNeg = 8 * a + k / 30 := by
  show (nI 8 * nI a + nI k / nI 30).toNatClampNeg = _
  rw [pk_div (by omega) (by decide) (by decide), pk_mul, nI_add, ix_1 (by omega)]
theorem l_of (x : Int32) : x.toInt64.toInt = x.toInt := Int32.toInt_toInt64 x
theorem gw_l {σ : XS} (h : Bds σ) {a k : Nat} (ha : a < 16) (hk : k < 240) : ((σ.1 16 0 (k % 30)).toInt64 * (σ.1 28 0 (240 * a + k)).toInt64).toInt = gw σ a k := by
  have h1 := gw_bd h ha hk
  unfold gw at h1 ⊢
  rw [l_mul (by rw [l_of, l_of]; omega) (by rw [l_of, l_of]; omega), l_of, l_of]
theorem mo_sum {σ : XS} (h : Bds σ) {a : Nat} (ha : a < 16) : ∀ (n k : Nat) (s : Int64), k + n = 241 → k < 241 → s.toInt = isum (gw σ a) k → (L_MO_sumOf n σ (nI a) s (nI k)).toInt = isum (gw σ a) 240 := by
  intro n
  induction n with
  | zero => intro k s h1 h2; omega
  | succ n ih =>
    intro k s h1 h2 hs
    rw [L_MO_sumOf]
    by_cases c9 : (240 : Int32) ≤ nI k
    · rw [if_pos c9]
      have hk : k = 240 := by
        rw [Int32.le_iff_toInt_le, nI_toInt (by omega)] at c9
        have h30 : (240 : Int32).toInt = 240 := rfl
        omega
      rw [hs, hk]
    · have hk : k < 240 := x_klt (b := 240) rfl (by decide) (by omega) rfl c9
      rw [if_neg c9, ix_rem hk, ix_240 ha hk, nI_1]
      refine ih (k + 1) _ (by omega) (by omega) ?_
      have b1 := sw_bd h ha (n := k) (by omega)
      have b2 := gw_bd h ha hk
      rw [l_add (by rw [gw_l h ha hk, hs]; omega) (by rw [gw_l h ha hk, hs]; omega), gw_l h ha hk, hs]
      rfl
theorem mo_sumOf {σ : XS} (h : Bds σ) {a : Nat} (ha : a < 16) : (S_MO_sumOf σ (nI a)).toInt = isum (gw σ a) 240 := mo_sum h ha 241 0 0 rfl (by decide) rfl
theorem gm_l {σ : XS} (h : Bds σ) {a k : Nat} (ha : a < 16) (hk : k < 240) : ((σ.1 16 0 (k % 30)).toInt64 * (σ.1 28 0 (240 * a + k)).toInt64 * (σ.1 24 0 (8 * a + k / 30)).toInt64).toInt = gm σ a k := by
  have h1 := gm_bd h ha hk
  unfold gm at h1 ⊢
  rw [l_mul (by rw [gw_l h ha hk, l_of]; omega) (by rw [gw_l h ha hk, l_of]; omega), gw_l h ha hk, l_of]
theorem mo_mom {σ : XS} (h : Bds σ) {a : Nat} (ha : a < 16) : ∀ (n k : Nat) (s : Int64), k + n = 241 → k < 241 → s.toInt = isum (gm σ a) k → (L_MO_momentOf n σ (nI a) s (nI k)).toInt = isum (gm σ a) 240 := by
  intro n
  induction n with
  | zero => intro k s h1 h2; omega
  | succ n ih =>
    intro k s h1 h2 hs
    rw [L_MO_momentOf]
    by_cases c9 : (240 : Int32) ≤ nI k
    · rw [if_pos c9]
      have hk : k = 240 := by
        rw [Int32.le_iff_toInt_le, nI_toInt (by omega)] at c9
        have h30 : (240 : Int32).toInt = 240 := rfl
        omega
      rw [hs, hk]
    · have hk : k < 240 := x_klt (b := 240) rfl (by decide) (by omega) rfl c9
      rw [if_neg c9, ix_rem hk, ix_240 ha hk, ix_8d ha hk, nI_1]
      refine ih (k + 1) _ (by omega) (by omega) ?_
      have b1 := sm_bd h ha (n := k) (by omega)
      have b2 := gm_bd h ha hk
      rw [l_add (by rw [gm_l h ha hk, hs]; omega) (by rw [gm_l h ha hk, hs]; omega), gm_l h ha hk, hs]
      rfl
theorem mo_momentOf {σ : XS} (h : Bds σ) {a : Nat} (ha : a < 16) : (S_MO_momentOf σ (nI a)).toInt = isum (gm σ a) 240 := mo_mom h ha 241 0 0 rfl (by decide) rfl
theorem mo_b1 {σ : XS} (h : Bds σ) {a : Nat} (ha : a < 16) : (S_MO_bears σ (nI a) 1).toInt = isum (gm σ a) 240 := by
  unfold S_MO_bears
  rw [if_neg i1n0]
  exact mo_momentOf h ha
theorem mo_b0 {σ : XS} (h : Bds σ) {a : Nat} (ha : a < 16) (hb : 0 ≤ (σ.1 20 0 a).toInt ∧ (σ.1 20 0 a).toInt ≤ 8000) : (S_MO_bears σ (nI a) 0).toInt = isum (gw σ a) 240 * (σ.1 20 0 a).toInt - isum (gm σ a) 240 := by
  unfold S_MO_bears
  have b1 := sw_bd h ha (n := 240) (by omega)
  have b2 := sm_bd h ha (n := 240) (by omega)
  have b3 := mul_bd b1.1 b1.2 hb.1 hb.2
  rw [if_pos rfl, ix_1 (by omega)]
  have e1 : (S_MO_sumOf σ (nI a) * (σ.1 20 0 a).toInt64).toInt = isum (gw σ a) 240 * (σ.1 20 0 a).toInt := by
    rw [l_mul (by rw [mo_sumOf h ha, l_of]; omega) (by rw [mo_sumOf h ha, l_of]; omega), mo_sumOf h ha, l_of]
  rw [l_sub (by rw [e1, mo_momentOf h ha]; omega) (by rw [e1, mo_momentOf h ha]; omega), e1, mo_momentOf h ha]
theorem lim_l {σ : XS} {x y : Int32} (hx : 0 ≤ x.toInt ∧ x.toInt ≤ 20000000) (hy : 0 ≤ y.toInt ∧ y.toInt ≤ 8000) : (x.toInt64 * y.toInt64).toInt = x.toInt * y.toInt := by
  have := mul_bd hx.1 hx.2 hy.1 hy.2
  rw [l_mul (by rw [l_of, l_of]; omega) (by rw [l_of, l_of]; omega), l_of, l_of]
theorem cmp_p {x y : Int64} (h : x.toInt ≤ y.toInt) : lg_cmp x y ≤ 0 := (lg_cmp_le x y).mpr (Int64.le_iff_toInt_le.mpr h)
theorem cmp_n {x y : Int64} (h : ¬ x.toInt ≤ y.toInt) : ¬ lg_cmp x y ≤ 0 := fun q => h (Int64.le_iff_toInt_le.mp ((lg_cmp_le x y).mp q))
theorem cmp_iff {x y : Int64} : lg_cmp x y ≤ 0 ↔ x.toInt ≤ y.toInt := (lg_cmp_le x y).trans Int64.le_iff_toInt_le
theorem cmp_gt {x y : Int64} : 0 < lg_cmp x y ↔ y.toInt < x.toInt := (lg_cmp_gt x y).trans Int64.lt_iff_toInt_lt
theorem mo_y0 {σ : XS} (h : Bds σ) {a : Nat} (ha : a < 16) (hb : 0 ≤ (σ.1 20 0 a).toInt ∧ (σ.1 20 0 a).toInt ≤ 8000) (hf : 0 ≤ (σ.1 21 0 a).toInt ∧ (σ.1 21 0 a).toInt ≤ 20000000) : S_MO_isBeyond σ (nI a) 0 = 0 ↔ isum (gw σ a) 240 * (σ.1 20 0 a).toInt - isum (gm σ a) 240 ≤ (σ.1 21 0 a).toInt * (σ.1 20 0 a).toInt := by
  unfold S_MO_isBeyond
  rw [if_pos rfl, ix_1 (by omega)]
  have e := cmp_iff (x := S_MO_bears σ (nI a) 0) (y := (σ.1 21 0 a).toInt64 * (σ.1 20 0 a).toInt64)
  rw [mo_b0 h ha hb, lim_l (σ := σ) hf hb] at e
  by_cases c : lg_cmp (S_MO_bears σ (nI a) 0) ((σ.1 21 0 a).toInt64 * (σ.1 20 0 a).toInt64) ≤ 0
  · rw [if_pos c]
    exact ⟨fun _ => e.mp c, fun _ => rfl⟩
  · rw [if_neg c]
    exact ⟨fun q => absurd q i1n0, fun q => absurd (e.mpr q) c⟩
theorem mo_y1 {σ : XS} (h : Bds σ) {a : Nat} (ha : a < 16) (hb : 0 ≤ (σ.1 20 0 a).toInt ∧ (σ.1 20 0 a).toInt ≤ 8000) (hf : 0 ≤ (σ.1 22 0 a).toInt ∧ (σ.1 22 0 a).toInt ≤ 20000000) : S_MO_isBeyond σ (nI a) 1 = 0 ↔ isum (gm σ a) 240 ≤ (σ.1 22 0 a).toInt * (σ.1 20 0 a).toInt := by
  unfold S_MO_isBeyond
  rw [if_neg i1n0, ix_1 (by omega)]
  have e := cmp_iff (x := S_MO_bears σ (nI a) 1) (y := (σ.1 22 0 a).toInt64 * (σ.1 20 0 a).toInt64)
  rw [mo_b1 h ha, lim_l (σ := σ) hf hb] at e
  by_cases c : lg_cmp (S_MO_bears σ (nI a) 1) ((σ.1 22 0 a).toInt64 * (σ.1 20 0 a).toInt64) ≤ 0
  · rw [if_pos c]
    exact ⟨fun _ => e.mp c, fun _ => rfl⟩
  · rw [if_neg c]
    exact ⟨fun q => absurd q i1n0, fun q => absurd (e.mpr q) c⟩
/-! one cell more or less -/
theorem gw_u {σ : XS} {a j n : Nat} {N : Int} {x : Int32} (hj : j < 240) (ha : a < 16) (hx : x.toInt = (σ.1 28 0 (240 * a + j)).toInt + N) : isum (gw (xuI σ 28 0 (240 * a + j) x) a) 240 = isum (gw σ a) 240 + (σ.1 16 0 (j % 30)).toInt * N := by
  refine isum_upd (c := j) hj ?_ (fun i hi hne => ?_)
  · show (σ.1 16 0 (j % 30)).toInt * ((xuI σ 28 0 (240 * a + j) x).1 28 0 (240 * a + j)).toInt = (σ.1 16 0 (j % 30)).toInt * (σ.1 28 0 (240 * a + j)).toInt + (σ.1 16 0 (j % 30)).toInt * N
    rw [xu_s, hx, Int.mul_add]
  · show (σ.1 16 0 (i % 30)).toInt * ((xuI σ 28 0 (240 * a + j) x).1 28 0 (240 * a + i)).toInt = (σ.1 16 0 (i % 30)).toInt * (σ.1 28 0 (240 * a + i)).toInt
    rw [xu_j _ _ _ _ _ (by omega)]
theorem gm_u {σ : XS} {a j n : Nat} {N : Int} {x : Int32} (hj : j < 240) (ha : a < 16) (hx : x.toInt = (σ.1 28 0 (240 * a + j)).toInt + N) : isum (gm (xuI σ 28 0 (240 * a + j) x) a) 240 = isum (gm σ a) 240 + (σ.1 16 0 (j % 30)).toInt * N * (σ.1 24 0 (8 * a + j / 30)).toInt := by
  refine isum_upd (c := j) hj ?_ (fun i hi hne => ?_)
  · show (σ.1 16 0 (j % 30)).toInt * ((xuI σ 28 0 (240 * a + j) x).1 28 0 (240 * a + j)).toInt * (σ.1 24 0 (8 * a + j / 30)).toInt = (σ.1 16 0 (j % 30)).toInt * (σ.1 28 0 (240 * a + j)).toInt * (σ.1 24 0 (8 * a + j / 30)).toInt + (σ.1 16 0 (j % 30)).toInt * N * (σ.1 24 0 (8 * a + j / 30)).toInt
    rw [xu_s, hx, Int.mul_add, Int.add_mul]
  · show (σ.1 16 0 (i % 30)).toInt * ((xuI σ 28 0 (240 * a + j) x).1 28 0 (240 * a + i)).toInt * (σ.1 24 0 (8 * a + i / 30)).toInt = (σ.1 16 0 (i % 30)).toInt * (σ.1 28 0 (240 * a + i)).toInt * (σ.1 24 0 (8 * a + i / 30)).toInt
    rw [xu_j _ _ _ _ _ (by omega)]
theorem gw_v {σ : XS} {a v j : Nat} {x : Int32} (hv : v < 16) (hne : v ≠ a) (hj : j < 240) : isum (gw (xuI σ 28 0 (240 * a + j) x) v) 240 = isum (gw σ v) 240 := isum_congr fun i hi => by
  show (σ.1 16 0 (i % 30)).toInt * ((xuI σ 28 0 (240 * a + j) x).1 28 0 (240 * v + i)).toInt = (σ.1 16 0 (i % 30)).toInt * (σ.1 28 0 (240 * v + i)).toInt
  rw [xu_j _ _ _ _ _ (by omega)]
theorem gm_v {σ : XS} {a v j : Nat} {x : Int32} (hv : v < 16) (hne : v ≠ a) (hj : j < 240) : isum (gm (xuI σ 28 0 (240 * a + j) x) v) 240 = isum (gm σ v) 240 := isum_congr fun i hi => by
  show (σ.1 16 0 (i % 30)).toInt * ((xuI σ 28 0 (240 * a + j) x).1 28 0 (240 * v + i)).toInt * (σ.1 24 0 (8 * v + i / 30)).toInt = (σ.1 16 0 (i % 30)).toInt * (σ.1 28 0 (240 * v + i)).toInt * (σ.1 24 0 (8 * v + i / 30)).toInt
  rw [xu_j _ _ _ _ _ (by omega)]
