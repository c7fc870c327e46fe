/-! what the reference's answers tell -/
theorem i_add {x y : Int32} (h1 : -2147483648 ≤ x.toInt + y.toInt) (h2 : x.toInt + y.toInt < 2147483648) : (x + y).toInt = x.toInt + y.toInt := by
  rw [Int32.toInt_add, Int.bmod_eq_of_le (by omega) (by omega)]
theorem i_sub {x y : Int32} (h1 : -2147483648 ≤ x.toInt - y.toInt) (h2 : x.toInt - y.toInt < 2147483648) : (x - y).toInt = x.toInt - y.toInt := by
  rw [Int32.toInt_sub, Int.bmod_eq_of_le (by omega) (by omega)]
theorem i_mul {x y : Int32} (h1 : -2147483648 ≤ x.toInt * y.toInt) (h2 : x.toInt * y.toInt < 2147483648) : (x * y).toInt = x.toInt * y.toInt := by
  rw [Int32.toInt_mul, Int.bmod_eq_of_le (by omega) (by omega)]
theorem l_add {x y : Int64} (h1 : -9223372036854775808 ≤ x.toInt + y.toInt) (h2 : x.toInt + y.toInt < 9223372036854775808) : (x + y).toInt = x.toInt + y.toInt := by
  rw [Int64.toInt_add, Int.bmod_eq_of_le (by omega) (by omega)]
theorem l_sub {x y : Int64} (h1 : -9223372036854775808 ≤ x.toInt - y.toInt) (h2 : x.toInt - y.toInt < 9223372036854775808) : (x - y).toInt = x.toInt - y.toInt := by
  rw [Int64.toInt_sub, Int.bmod_eq_of_le (by omega) (by omega)]
theorem l_mul {x y : Int64} (h1 : -9223372036854775808 ≤ x.toInt * y.toInt) (h2 : x.toInt * y.toInt < 9223372036854775808) : (x * y).toInt = x.toInt * y.toInt := by
  rw [Int64.toInt_mul, Int.bmod_eq_of_le (by omega) (by omega)]
theorem l_rem {a b : Int64} (hb : 0 < b.toInt) : (a - a / b * b).toInt = a.toInt.tmod b.toInt := by
  have e := Int.mul_tdiv_add_tmod a.toInt b.toInt
  have q1 := Int.natAbs_tdiv_le_natAbs a.toInt b.toInt
  have a1 := Int64.le_toInt a
  have a2 := Int64.toInt_lt a
  have b2 := Int64.toInt_lt b
  have r1 := Int.tmod_lt_of_pos a.toInt hb
  have r2 := Int.lt_tmod_of_pos a.toInt hb
  have r3 : 0 ≤ a.toInt → 0 ≤ a.toInt.tmod b.toInt := fun h => Int.tmod_nonneg _ h
  have r4 : a.toInt ≤ 0 → a.toInt.tmod b.toInt ≤ 0 := fun h => by
    have h1 := Int.tmod_nonneg (a := -a.toInt) b.toInt (by omega)
    rw [Int.neg_tmod] at h1
    omega
  have hq : (a / b).toInt = a.toInt.tdiv b.toInt := by
    rw [Int64.toInt_div]
    by_cases hm : a.toInt.tdiv b.toInt = 9223372036854775808
    · exfalso
      have h3 : 0 ≤ b.toInt * a.toInt.tdiv b.toInt := by
        rw [hm]
        omega
      have h4 : a.toInt = b.toInt * 9223372036854775808 + a.toInt.tmod b.toInt := by
        rw [← hm]
        omega
      omega
    · exact Int.bmod_eq_of_le (by omega) (by omega)
  have hm : (a / b * b).toInt = a.toInt.tdiv b.toInt * b.toInt := by
    have e2 : a.toInt.tdiv b.toInt * b.toInt = a.toInt - a.toInt.tmod b.toInt := by
      rw [Int.mul_comm]
      omega
    rw [l_mul (by rw [hq, e2]; rcases Int.le_total 0 a.toInt with h | h <;> (have := r3; have := r4; omega)) (by rw [hq, e2]; rcases Int.le_total 0 a.toInt with h | h <;> (have := r3; have := r4; omega)), hq]
  have e2 : a.toInt.tdiv b.toInt * b.toInt = a.toInt - a.toInt.tmod b.toInt := by
    rw [Int.mul_comm]
    omega
  rw [l_sub (by rw [hm, e2]; omega) (by rw [hm, e2]; omega), hm, e2]
  omega
theorem o_axb {b : Int64} (h : ¬ lg_cmp b 0 ≤ 0) : ¬ b = 0 := fun q => h (by rw [q]; decide)
theorem o_axc {b : Int64} (h : ¬ lg_cmp b 0 ≤ 0) : 0 < b.toInt := by
  rw [lg_cmp_le, Int64.le_iff_toInt_le] at h
  have h0 : (0 : Int64).toInt = 0 := rfl
  omega
theorem o_axa {a b : Int64} (h : ¬ a = 0 ∨ 0 < b.toInt) (c : lg_cmp b 0 ≤ 0) : ¬ a = 0 := by
  rcases h with h | h
  · exact h
  · rw [lg_cmp_le, Int64.le_iff_toInt_le] at c
    have h0 : (0 : Int64).toInt = 0 := rfl
    omega
theorem o_axm {a b : Int64} {n : Nat} (h : b.toInt.toNat < n + 1) (c : ¬ lg_cmp b 0 ≤ 0) : (a - a / b * b).toInt.toNat < n := by
  have hb := o_axc c
  rw [l_rem hb]
  have r1 := Int.tmod_lt_of_pos a.toInt hb
  omega
theorem m_in {σ : XS} {x lo hi : Int32} (h : ¬ S_MO_in σ x lo hi = 0) : lo.toInt ≤ x.toInt ∧ x.toInt ≤ hi.toInt := by
  unfold S_MO_in at h
  split at h
  · exact absurd rfl h
  · split at h
    · exact absurd rfl h
    · rename_i c1 c2
      rw [Int32.lt_iff_toInt_lt] at c1 c2
      omega
theorem m_vlt {σ : XS} {v : Int32} (hok : MOk σ) (h : ¬ S_MO_isVehicle σ v = 0) : 0 ≤ v.toInt ∧ v.toInt < (σ.1 15 0 6).toInt := by
  have h1 := m_in h
  have h2 := hok.1
  have h0 : (0 : Int32).toInt = 0 := rfl
  have h3 : (1 : Int32).toInt = 1 := rfl
  rw [i_sub (by omega) (by omega)] at h1
  omega
theorem m_veh {σ : XS} {v : Int32} (hok : MOk σ) (h : ¬ S_MO_isVehicle σ v = 0) : vp_in v 16 := by
  have h1 := m_vlt hok h
  have h2 := hok.1
  rw [vp_in_iff]
  omega
theorem m_cup {σ : XS} {x : Int32} (h : ¬ S_MO_isCupboard σ x = 0) : vp_in x 8 := by
  have h1 := m_in h
  have h0 : (0 : Int32).toInt = 0 := rfl
  have h3 : (7 : Int32).toInt = 7 := rfl
  rw [vp_in_iff]
  omega
theorem m_item {σ : XS} {x : Int32} (h : ¬ S_MO_isItem σ x = 0) : vp_in x 30 := by
  have h1 := m_in h
  have h0 : (0 : Int32).toInt = 0 := rfl
  have h3 : (29 : Int32).toInt = 29 := rfl
  rw [vp_in_iff]
  omega
theorem m_kd {σ : XS} {x : Int32} (h : ¬ S_MO_in σ x 0 5 = 0) : vp_in x 6 := by
  have h1 := m_in h
  have h0 : (0 : Int32).toInt = 0 := rfl
  have h3 : (5 : Int32).toInt = 5 := rfl
  rw [vp_in_iff]
  omega
theorem m_th {σ : XS} {v c i : Int32} (h : ¬ S_MO_isThing σ v c i = 0) : ¬ S_MO_isVehicle σ v = 0 ∧ ¬ S_MO_isCupboard σ c = 0 ∧ ¬ S_MO_isItem σ i = 0 := by
  unfold S_MO_isThing at h
  split at h
  · exact absurd rfl h
  · split at h
    · exact absurd rfl h
    · split at h
      · exact absurd rfl h
      · rename_i h1 h2 h3
        exact ⟨h1, h2, h3⟩
theorem m_thv {σ : XS} {v c i : Int32} (hok : MOk σ) (h : ¬ S_MO_isThing σ v c i = 0) : vp_in v 16 := m_veh hok (m_th h).1
theorem m_thc {σ : XS} {v c i : Int32} (h : ¬ S_MO_isThing σ v c i = 0) : vp_in c 8 := m_cup (m_th h).2.1
theorem m_thi {σ : XS} {v c i : Int32} (h : ¬ S_MO_isThing σ v c i = 0) : vp_in i 30 := m_item (m_th h).2.2
theorem o_mv {σ : XS} (hok : MOk σ) (h : ¬ σ.1 15 0 6 = 16) : vp_in (σ.1 15 0 6) 16 := by
  have h2 := hok.1
  have h3 : (σ.1 15 0 6).toInt ≠ 16 := fun q => h (Int32.toInt_inj.mp q)
  rw [vp_in_iff]
  omega
theorem o_axe {σ : XS} {v : Int32} (hok : MOk σ) (h : ¬ S_MO_isVehicle σ v = 0) (hv : vp_in v 16) : 0 < ((σ.1 20 0 v.toNatClampNeg).toInt64).toInt := by
  rw [Int32.toInt_toInt64]
  have h1 := m_vlt hok h
  refine hok.2.2.1 _ (vp_lt hv) ?_
  obtain ⟨k, hk, rfl⟩ := vp_in_of hv (by decide)
  rw [nI_toInt (by omega)] at h1
  rw [pk_cl k rfl]
  exact h1.2
theorem o_told {σ : XS} {a b hi : Int32} (c1 : ¬ S_MO_in σ a 0 hi = 0) (c2 : ¬ S_MO_in σ b 0 2 = 0) : vp_in ((3 : Int32) * (a - a / 100 * 100) + b) 300 := by
  have h1 := m_in c1
  have h2 := m_in c2
  have h0 : (0 : Int32).toInt = 0 := rfl
  have h3 : (2 : Int32).toInt = 2 := rfl
  obtain ⟨k, hk, e⟩ := o_tell (x := a) (by omega)
  obtain ⟨j, hj, rfl⟩ := nI_of (x := b) (by rw [Int32.lt_iff_toInt_lt]; omega)
  rw [nI_toInt hj] at h2
  rw [e, nI_add]
  exact vp_in_nI (by omega) (by decide)
theorem o_mrow2 {σ : XS} (h : 0 ≤ (σ.1 15 0 18).toInt ∧ (σ.1 15 0 18).toInt < 1073741824) {a b c : Int32} : 0 ≤ ((S_MO_tell σ a b c).2.1 15 0 18).toInt := by
  show 0 ≤ (σ.1 15 0 18 + 1).toInt
  have h1 : (1 : Int32).toInt = 1 := rfl
  rw [i_add (by omega) (by omega)]
  omega
theorem xu_back (σ : XS) (r i j : Nat) (x n : Int32) : xuI (xuI σ r i j (σ.1 r i j + n)) r i j ((xuI σ r i j (σ.1 r i j + n)).1 r i j - n) = σ := by
  refine Prod.ext ?_ rfl
  funext r' i' j'
  show (if r' = r ∧ j' = j ∧ i' = i then (if r = r ∧ j = j ∧ i = i then σ.1 r i j + n else σ.1 r i j) - n else if r' = r ∧ j' = j ∧ i' = i then σ.1 r i j + n else σ.1 r' i' j') = σ.1 r' i' j'
  by_cases h : r' = r ∧ j' = j ∧ i' = i
  · rw [if_pos h, if_pos ⟨rfl, rfl, rfl⟩]
    obtain ⟨rfl, rfl, rfl⟩ := h
    exact Int32.add_sub_cancel _ _
  · rw [if_neg h, if_neg h]
theorem tm_same {σ : XS} {v c i n : Int32} : (S_MO_isTooMuch σ v c i n).2 = σ := by
  unfold S_MO_isTooMuch
  repeat' split
  all_goals exact xu_back σ _ _ _ 0 n
