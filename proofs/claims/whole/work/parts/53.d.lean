theorem l_i {x y : Int64} (h : x.toInt = y.toInt) : x = y := Int64.toInt_inj.mp h
theorem cmp0 : lg_cmp (lN 0) 0 = 0 := by decide
theorem cmpn {b : Nat} (h : 0 < b) (hb : b < 2 ^ 63) : ¬ lg_cmp (lN b) 0 = 0 := fun q => by
  have q := congrArg Int64.toInt ((lg_cmp_eq _ _).mp q)
  rw [pk_lT hb] at q
  have n0 : (0 : Int64).toInt = 0 := rfl
  omega
theorem g1 (a b : Nat) : Nat.gcd a b = Nat.gcd b (a % b) := by
  rw [Nat.gcd_comm a b, Nat.gcd_rec b a, Nat.gcd_comm]
theorem cd_stop {σ : XS} {a n k : Nat} (hk : k ≤ 199) : L_LC_commonDivisor (n + 1) σ (lN a) (lN 0) (nI k) = (if (1 : Int64) < lN a then lN a else 1) := by
  rw [L_LC_commonDivisor, if_neg, if_pos cmp0]
  intro q
  rw [Int32.le_iff_toInt_le, nI_toInt (by omega)] at q
  have n2 : (200 : Int32).toInt = 200 := rfl
  omega
theorem cd_step {σ : XS} {a b n k : Nat} (hk : k ≤ 199) (hb : 0 < b) (hb2 : b < 2 ^ 63) (ha : a < 2 ^ 63) : L_LC_commonDivisor (n + 1) σ (lN a) (lN b) (nI k) = L_LC_commonDivisor n σ (lN b) (lN (a % b)) (nI (k + 1)) := by
  rw [L_LC_commonDivisor, if_neg, if_neg (cmpn hb hb2), pk_lRem ha hb hb2, nI_1]
  intro q
  rw [Int32.le_iff_toInt_le, nI_toInt (by omega)] at q
  have n2 : (200 : Int32).toInt = 200 := rfl
  omega
theorem cd_all {σ : XS} : ∀ (m a b n k : Nat), b < 2 ^ m → a < 2 ^ 63 → b < 2 ^ 63 → k + n = 201 → k + 2 * m ≤ 199 → L_LC_commonDivisor n σ (lN a) (lN b) (nI k) = (if (1 : Int64) < lN (Nat.gcd a b) then lN (Nat.gcd a b) else 1) := by
  intro m
  induction m with
  | zero =>
    intro a b n k hb ha hb2 h1 h2
    have e : b = 0 := by omega
    subst e
    obtain ⟨n, rfl⟩ : ∃ n', n = n' + 1 := ⟨n - 1, by omega⟩
    rw [cd_stop (by omega), Nat.gcd_zero_right]
  | succ m ih =>
    intro a b n k hb ha hb2 h1 h2
    obtain ⟨n, rfl⟩ : ∃ n', n = n' + 2 := ⟨n - 2, by omega⟩
    rcases Nat.eq_zero_or_pos b with e | e
    · subst e
      rw [cd_stop (by omega), Nat.gcd_zero_right]
    · rw [cd_step (by omega) e hb2 ha, g1 a b]
      have hr := Nat.mod_lt a e
      rcases Nat.eq_zero_or_pos (a % b) with e2 | e2
      · rw [e2, cd_stop (by omega), Nat.gcd_zero_right]
      · rw [cd_step (by omega) e2 (by omega) hb2, g1 b (a % b)]
        have hr2 := Nat.mod_lt b e2
        have hd := Nat.div_add_mod b (a % b)
        have hq : 1 ≤ b / (a % b) := Nat.div_pos (by omega) e2
        have hm : a % b ≤ (a % b) * (b / (a % b)) := Nat.le_mul_of_pos_right _ hq
        have hp : 2 ^ (m + 1) = 2 * 2 ^ m := by rw [Nat.pow_succ]; omega
        exact ih (a % b) (b % (a % b)) n (k + 1 + 1) (by omega) (by omega) (by omega) (by omega) (by omega)
theorem ax_all {τ : XS} {v q : Int32} {up : Int64} : ∀ (n a b : Nat), b < n → a < 2 ^ 63 → b < 2 ^ 63 → L_MO_axle n τ v q up (lN a) (lN b) = (if (q - q / (2 : Int32) * (2 : Int32)) = 0 then (up / lN (Nat.gcd a b), τ) else ((τ.1 20 0 v.toNatClampNeg).toInt64 / lN (Nat.gcd a b), τ)) := by
  intro n
  induction n with
  | zero => intro a b h; omega
  | succ n ih =>
    intro a b h ha hb
    rw [L_MO_axle]
    rcases Nat.eq_zero_or_pos b with e | e
    · subst e
      rw [if_pos (by decide), Nat.gcd_zero_right]
    · have hn : ¬ lg_cmp (lN b) 0 ≤ 0 := by
        rw [cmp_iff, pk_lT hb]
        have n0 : (0 : Int64).toInt = 0 := rfl
        omega
      have hr := Nat.mod_lt a e
      rw [if_neg hn, pk_lRem ha e hb, g1 a b]
      exact ih b (a % b) (by omega) hb (by omega)
theorem ab_c {u : Int64} (h : -1000000000000000 ≤ u.toInt ∧ u.toInt ≤ 1000000000000000) : (if 0 < u then u else -u) = lN u.toInt.natAbs := by
  have n0 : (0 : Int64).toInt = 0 := rfl
  by_cases c : 0 < u
  · rw [if_pos c]
    rw [Int64.lt_iff_toInt_lt] at c
    refine l_i ?_
    rw [pk_lT (by omega)]
    omega
  · rw [if_neg c]
    rw [Int64.lt_iff_toInt_lt] at c
    refine l_i ?_
    rw [pk_lT (by omega), Int64.toInt_neg, Int.bmod_eq_of_le (by omega) (by omega)]
    omega
theorem ab_p {u : Int64} (h : -1000000000000000 ≤ u.toInt ∧ u.toInt ≤ 1000000000000000) (c : 0 ≤ lg_cmp u 0) : u = lN u.toInt.natAbs := by
  rw [lg_cmp_ge, Int64.le_iff_toInt_le] at c
  have n0 : (0 : Int64).toInt = 0 := rfl
  refine l_i ?_
  rw [pk_lT (by omega)]
  omega
theorem ab_n {u : Int64} (h : -1000000000000000 ≤ u.toInt ∧ u.toInt ≤ 1000000000000000) (c : ¬ 0 ≤ lg_cmp u 0) : -u = lN u.toInt.natAbs := by
  rw [lg_cmp_ge, Int64.le_iff_toInt_le] at c
  have n0 : (0 : Int64).toInt = 0 := rfl
  refine l_i ?_
  rw [pk_lT (by omega), Int64.toInt_neg, Int.bmod_eq_of_le (by omega) (by omega)]
  omega
theorem d_one {g : Nat} (h : 1 ≤ g) (hg : g < 2 ^ 63) : (if (1 : Int64) < lN g then lN g else 1) = lN g := by
  by_cases c : (1 : Int64) < lN g
  · rw [if_pos c]
  · rw [if_neg c]
    rw [Int64.lt_iff_toInt_lt, pk_lT hg] at c
    have n1 : (1 : Int64).toInt = 1 := rfl
    refine l_i ?_
    rw [pk_lT hg]
    omega
theorem base_l {x : Int32} (h : 0 ≤ x.toInt) : x.toInt64 = lN x.toInt.toNat := by
  have := Int32.toInt_lt x
  refine l_i ?_
  rw [l_of, pk_lT (by omega)]
  omega
theorem cd_S {σ : XS} {u : Int64} {x : Int32} (h : -1000000000000000 ≤ u.toInt ∧ u.toInt ≤ 1000000000000000) (hx : 1000 ≤ x.toInt ∧ x.toInt ≤ 8000) : S_LC_commonDivisor σ u x.toInt64 = lN (Nat.gcd u.toInt.natAbs x.toInt.toNat) := by
  unfold S_LC_commonDivisor
  rw [ab_c h, base_l (by omega)]
  have e := cd_all (σ := σ) 13 u.toInt.natAbs x.toInt.toNat 201 0 (by omega) (by omega) (by omega) rfl (by omega)
  have g2 := Nat.gcd_le_right u.toInt.natAbs (show 0 < x.toInt.toNat by omega)
  have g3 := Nat.gcd_pos_of_pos_right u.toInt.natAbs (show 0 < x.toInt.toNat by omega)
  exact e.trans (d_one g3 (by omega))
/-- the value of axle, on both sides -/
theorem ax_v {t : Nat} {σ : XS} (h : Rel t σ) {a c : Nat} (ha : a < 16) (hav : (a : Int) < (σ.1 15 0 6).toInt) (hc : c < 4) : ∃ r : Int64, S_LC_axle σ (nI a) (nI c) = .inl r ∧ ∀ w : Int64, S_MO_axle (xuL σ 31 0 0 w) (nI a) (nI c) = (r, xuI (xuL σ 31 0 0 w) 15 0 0 0) := by
  have hv : isv σ (nI a) := ⟨by rw [nI_toInt (by omega)]; omega, by rw [nI_toInt (by omega)]; exact hav⟩
  have cC := kv_p h hv
  have cM : ∀ w : Int64, S_MO_isVehicle (xuL σ 31 0 0 w) (nI a) = 1 := fun w => iv_p (σ := xuL σ 31 0 0 w) h.nvr hv
  have i1 : (nI a).toNatClampNeg = a := ix_1 (by omega)
  have hba := h.bar a ha hav
  have hG := GG_bd h ha hav
  have hM := sm_bd h.bds ha (n := 240) (by omega)
  have eG := ve_fm h ha hav
  have eM : (S_VE_rearMoment σ a).toInt = MM σ a := h.mo a ha
  have hMM : -237600000000000 ≤ MM σ a ∧ MM σ a ≤ 237600000000000 := hM
  have uF : ∀ w : Int64, S_MO_bears (xuI (xuL σ 31 0 0 w) 15 0 0 0) (nI a) 0 = S_VE_frontMoment σ a := fun w => l_i ((mo_b0 (σ := xuI (xuL σ 31 0 0 w) 15 0 0 0) h.bds ha (by show 0 ≤ (σ.1 20 0 a).toInt ∧ (σ.1 20 0 a).toInt ≤ 8000; omega)).trans eG.symm)
  have uR : ∀ w : Int64, S_MO_bears (xuI (xuL σ 31 0 0 w) 15 0 0 0) (nI a) 1 = S_VE_rearMoment σ a := fun w => l_i ((mo_b1 (σ := xuI (xuL σ 31 0 0 w) 15 0 0 0) h.bds ha).trans eM.symm)
  have e6 : σ.1 9 a 6 = σ.1 20 0 a := h.ba a ha hav
  have dF := cd_S (σ := σ) (u := S_VE_frontMoment σ a) (x := σ.1 20 0 a) (by omega) hba
  have dR := cd_S (σ := σ) (u := S_VE_rearMoment σ a) (x := σ.1 20 0 a) (by omega) hba
  have bl := base_l (x := σ.1 20 0 a) (by omega)
  have MX : ∀ (w u : Int64) (q : Int32), (-1000000000000000 ≤ u.toInt ∧ u.toInt ≤ 1000000000000000) → (if 0 ≤ lg_cmp u 0 then L_MO_axle ((((xuI (xuL σ 31 0 0 w) 15 0 0 0).1 20 0 a).toInt64).toInt.toNat + 1) (xuI (xuL σ 31 0 0 w) 15 0 0 0) (nI a) q u u (((xuI (xuL σ 31 0 0 w) 15 0 0 0).1 20 0 a).toInt64) else L_MO_axle ((((xuI (xuL σ 31 0 0 w) 15 0 0 0).1 20 0 a).toInt64).toInt.toNat + 1) (xuI (xuL σ 31 0 0 w) 15 0 0 0) (nI a) q u (-u) (((xuI (xuL σ 31 0 0 w) 15 0 0 0).1 20 0 a).toInt64)) = (if (q - q / (2 : Int32) * (2 : Int32)) = 0 then (u / lN (Nat.gcd u.toInt.natAbs (σ.1 20 0 a).toInt.toNat), xuI (xuL σ 31 0 0 w) 15 0 0 0) else ((σ.1 20 0 a).toInt64 / lN (Nat.gcd u.toInt.natAbs (σ.1 20 0 a).toInt.toNat), xuI (xuL σ 31 0 0 w) 15 0 0 0)) := by
    intro w u q hu
    have e20 : (xuI (xuL σ 31 0 0 w) 15 0 0 0).1 20 0 a = σ.1 20 0 a := rfl
    have key := ax_all (τ := xuI (xuL σ 31 0 0 w) 15 0 0 0) (v := nI a) (q := q) (up := u) ((σ.1 20 0 a).toInt64.toInt.toNat + 1) u.toInt.natAbs (σ.1 20 0 a).toInt.toNat (by rw [l_of]; omega) (by omega) (by omega)
    rw [← bl, i1, e20] at key
    rw [e20]
    by_cases c : 0 ≤ lg_cmp u 0
    · rw [if_pos c]
      rw [← ab_p hu c] at key
      exact key
    · rw [if_neg c]
      rw [← ab_n hu c] at key
      exact key
  have q4 : c = 0 ∨ c = 1 ∨ c = 2 ∨ c = 3 := by omega
  rcases q4 with rfl | rfl | rfl | rfl
  · refine ⟨S_VE_frontMoment σ a / lN (Nat.gcd (S_VE_frontMoment σ a).toInt.natAbs (σ.1 20 0 a).toInt.toNat), ?_, fun w => ?_⟩
    · show S_LC_axle σ (nI a) 0 = _
      simp only [S_LC_axle, cC, xbp_l, i1, e6, dF, show ((0 : Int32) < 0) = False from eq_false (by decide), show ((0 : Int32) < 4) = True from eq_true (by decide), show ((2 : Int32) ≤ 0) = False from eq_false (by decide), show ((0 : Int32) - 0 / 2 * 2 = 0) = True from eq_true (by decide), if_true, if_false]
    · show S_MO_axle (xuL σ 31 0 0 w) (nI a) 0 = _
      simp only [S_MO_axle, cM w, i1n0, if_false, show S_MO_in (xuL σ 31 0 0 w) 0 0 3 = 1 from in_p _ (by unfold inb; decide), thr_0, show ((0 : Int32) ≤ 1) = True from eq_true (by decide), if_true, uF, i1]
      rw [MX w _ 0 (by omega), if_pos (by decide)]
  · refine ⟨(σ.1 20 0 a).toInt64 / lN (Nat.gcd (S_VE_frontMoment σ a).toInt.natAbs (σ.1 20 0 a).toInt.toNat), ?_, fun w => ?_⟩
    · show S_LC_axle σ (nI a) 1 = _
      simp only [S_LC_axle, cC, xbp_l, i1, e6, dF, show ((1 : Int32) < 0) = False from eq_false (by decide), show ((1 : Int32) < 4) = True from eq_true (by decide), show ((2 : Int32) ≤ 1) = False from eq_false (by decide), show ((1 : Int32) - 1 / 2 * 2 = 0) = False from eq_false (by decide), if_true, if_false]
    · show S_MO_axle (xuL σ 31 0 0 w) (nI a) 1 = _
      simp only [S_MO_axle, cM w, i1n0, if_false, show S_MO_in (xuL σ 31 0 0 w) 1 0 3 = 1 from in_p _ (by unfold inb; decide), thr_0, show ((1 : Int32) ≤ 1) = True from eq_true (by decide), if_true, uF, i1]
      rw [MX w _ 1 (by omega), if_neg (by decide)]
  · refine ⟨S_VE_rearMoment σ a / lN (Nat.gcd (S_VE_rearMoment σ a).toInt.natAbs (σ.1 20 0 a).toInt.toNat), ?_, fun w => ?_⟩
    · show S_LC_axle σ (nI a) 2 = _
      simp only [S_LC_axle, cC, xbp_l, i1, e6, dR, show ((2 : Int32) < 0) = False from eq_false (by decide), show ((2 : Int32) < 4) = True from eq_true (by decide), show ((2 : Int32) ≤ 2) = True from eq_true (by decide), show ((2 : Int32) - 2 / 2 * 2 = 0) = True from eq_true (by decide), if_true, if_false]
    · show S_MO_axle (xuL σ 31 0 0 w) (nI a) 2 = _
      simp only [S_MO_axle, cM w, i1n0, if_false, show S_MO_in (xuL σ 31 0 0 w) 2 0 3 = 1 from in_p _ (by unfold inb; decide), thr_0, show ((2 : Int32) ≤ 1) = False from eq_false (by decide), if_true, uR, i1]
      rw [MX w _ 2 (by omega), if_pos (by decide)]
  · refine ⟨(σ.1 20 0 a).toInt64 / lN (Nat.gcd (S_VE_rearMoment σ a).toInt.natAbs (σ.1 20 0 a).toInt.toNat), ?_, fun w => ?_⟩
    · show S_LC_axle σ (nI a) 3 = _
      simp only [S_LC_axle, cC, xbp_l, i1, e6, dR, show ((3 : Int32) < 0) = False from eq_false (by decide), show ((3 : Int32) < 4) = True from eq_true (by decide), show ((2 : Int32) ≤ 3) = True from eq_true (by decide), show ((3 : Int32) - 3 / 2 * 2 = 0) = False from eq_false (by decide), if_true, if_false]
    · show S_MO_axle (xuL σ 31 0 0 w) (nI a) 3 = _
      simp only [S_MO_axle, cM w, i1n0, if_false, show S_MO_in (xuL σ 31 0 0 w) 3 0 3 = 1 from in_p _ (by unfold inb; decide), thr_0, show ((3 : Int32) ≤ 1) = False from eq_false (by decide), if_true, uR, i1]
      rw [MX w _ 3 (by omega), if_neg (by decide)]
set_option maxHeartbeats 4000000 in
theorem r_axle {t : Nat} {σ : XS} (h : Rel t σ) (ht : t < 512) (v q : Int32) : Rel (t + 1) (S_MO_axle (S_LW_axle σ v q).2 v q).2 ∧ S_MO_thrown (S_MO_axle (S_LW_axle σ v q).2 v q).2 = (S_LW_axle σ v q).1 ∧ ((S_LW_axle σ v q).1 = 0 → (S_MO_axle (S_LW_axle σ v q).2 v q).2.2 31 0 0 = (S_MO_axle (S_LW_axle σ v q).2 v q).1) := by
  by_cases hv : isv σ v
  · obtain ⟨a, ha, hav, rfl⟩ := isv_of h hv
    have hqf : ¬ inb q 0 3 → S_LC_axle σ (nI a) q = .inr IAE := fun hq => by
      have n0 : (0 : Int32).toInt = 0 := rfl
      have n3 : (3 : Int32).toInt = 3 := rfl
      have n4 : (4 : Int32).toInt = 4 := rfl
      rw [inb_iff] at hq
      by_cases c1 : q < 0
      · simp only [S_LC_axle, kv_p h hv, xbp_l, c1, if_true]
        rfl
      · have c2 : ¬ q < 4 := fun z => hq (by rw [Int32.lt_iff_toInt_lt] at c1 z; omega)
        simp only [S_LC_axle, kv_p h hv, xbp_l, c1, c2, if_false]
        rfl
    by_cases hq : inb q 0 3
    · obtain ⟨c, hc, rfl⟩ := inb_of (N := 3) rfl hq
      obtain ⟨r, z1, z2⟩ := ax_v h ha hav hc
      have e1 : S_LW_axle σ (nI a) (nI c) = (0, xuL σ 31 0 0 r) := by
        simp only [S_LW_axle, z1, xca_l]
      have e2 := z2 r
      rw [e1]
      show Rel (t + 1) (S_MO_axle (xuL σ 31 0 0 r) (nI a) (nI c)).2 ∧ S_MO_thrown (S_MO_axle (xuL σ 31 0 0 r) (nI a) (nI c)).2 = 0 ∧ ((0 : Int32) = 0 → _)
      rw [e2]
      exact ⟨(h.out _).thr 0, rfl, fun _ => rfl⟩
    · have e1 : S_LW_axle σ (nI a) q = (1, σ) := by
        simp only [ix_1 (show a < 2 ^ 31 by omega), S_LW_axle, hqf hq, ex_aa, xbp_l, xbp_r, xca_l, xca_r, i1n0, if_true, if_false, ite_self]
        try rfl
      have e2 : S_MO_axle σ (nI a) q = (0, xuI σ 15 0 0 1) := by
        simp only [ix_1 (show a < 2 ^ 31 by omega), S_MO_axle, iv_p (σ := σ) h.nvr hv, in_n _ hq, thr_1, xbp_l, xbp_r, xca_l, xca_r, i1n0, if_true, if_false, ite_self]
        try rfl
      rw [e1]
      show Rel (t + 1) (S_MO_axle σ (nI a) q).2 ∧ S_MO_thrown (S_MO_axle σ (nI a) q).2 = 1 ∧ ((1 : Int32) = 0 → _)
      rw [e2]
      exact ⟨h.thr 1, rfl, fun q => absurd q (by decide)⟩
  · have e1 : S_LW_axle σ v q = (1, σ) := by
      simp only [S_LW_axle, S_LC_axle, kv_n h hv, ex_aa, xbp_l, xbp_r, xca_l, xca_r, i1n0, if_true, if_false, ite_self]
      try rfl
    have e2 : S_MO_axle σ v q = (0, xuI σ 15 0 0 1) := by
      simp only [S_MO_axle, iv_n (σ := σ) h.nvr hv, thr_1, xbp_l, xbp_r, xca_l, xca_r, i1n0, if_true, if_false, ite_self]
      try rfl
    rw [e1]
    show Rel (t + 1) (S_MO_axle σ v q).2 ∧ S_MO_thrown (S_MO_axle σ v q).2 = 1 ∧ ((1 : Int32) = 0 → _)
    rw [e2]
    exact ⟨h.thr 1, rfl, fun q => absurd q (by decide)⟩
