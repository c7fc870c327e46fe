theorem Rel.K {t : Nat} {σ : XS} (h : Rel t σ) {a : Nat} (ha : a < 16) : ∃ K : Nat, K < 6 ∧ σ.1 19 0 a = nI K ∧ (σ.1 9 a 5).toNatClampNeg = K := by
  obtain ⟨K, hK, e⟩ := vp_in_of (h.kdr a ha) (by decide)
  exact ⟨K, hK, e, by rw [h.kd a ha, e, ix_1 (by omega)]⟩
/-- what the reference reads of vehicle a is what the class has -/
def MV (σ τ : XS) (a K : Nat) : Prop := τ.1 19 0 a = nI K ∧ (∀ j, j < 240 → τ.1 28 0 (240 * a + j) = σ.1 12 a j) ∧ ∀ j, j < 240 → τ.1 29 0 (240 * K + j) = σ.1 5 K j
theorem Rel.mv {t : Nat} {σ : XS} (h : Rel t σ) {a K : Nat} (ha : a < 16) (hK : K < 6) (e : σ.1 19 0 a = nI K) : MV σ σ a K := ⟨e, fun j hj => (h.co a ha j hj).symm, fun j hj => (h.ne K hK j hj).symm⟩
theorem lk {σ τ : XS} {a K j : Nat} (m : MV σ τ a K) (ha : a < 16) (hK : K < 6) (hj : j < 240) : S_MO_missingOf τ (nI a) (nI j) = S_VE_lackOf σ a (nI j) (σ.1 5 K j) := by
  unfold S_MO_missingOf S_VE_lackOf
  rw [ix_1 (a := a) (by omega), m.1, ix_240 (show K < 16 by omega) hj, ix_240 ha hj, m.2.1 j hj, m.2.2 j hj, ix_1 (by omega)]
  by_cases c : 0 ≤ σ.1 5 K j - σ.1 12 a j
  · rw [if_pos c, if_neg (Int32.not_lt.mpr c)]
  · rw [if_neg c, if_pos (Int32.not_le.mp c)]
theorem mi_all {σ τ : XS} {a K Q : Nat} (m : MV σ τ a K) (ha : a < 16) (hK : K < 6) (hQ : Q < 2 ^ 31) : ∀ n k p : Nat, k + n = 241 → k < 241 → p ≤ Q → p ≤ k →
    (L_VE_missingCell n σ a K (nI Q) (nI p) (nI k) = -1 ∧ L_MO_missing n τ (nI a) (nI (Q - p)) (nI k) = (-1, τ)) ∨ ∃ j, j < 240 ∧ L_VE_missingCell n σ a K (nI Q) (nI p) (nI k) = nI j ∧ L_MO_missing n τ (nI a) (nI (Q - p)) (nI k) = (10000 * (nI j / 30) + 100 * (nI j - nI j / 30 * 30) + S_VE_lackOf σ a (nI j) (σ.1 5 K j), τ) := by
  intro n
  induction n with
  | zero => intro k p h1 h2; omega
  | succ n ih =>
    intro k p h1 h2 hp hpk
    rw [L_VE_missingCell, L_MO_missing]
    by_cases c9 : (240 : Int32) ≤ nI k
    · rw [if_pos c9, if_pos c9]
      exact Or.inl ⟨rfl, rfl⟩
    · have hk : k < 240 := x_klt (b := 240) rfl (by decide) (by omega) rfl c9
      rw [if_neg c9, if_neg c9, lk m ha hK hk, ix_1 (a := k) (by omega), nI_1]
      by_cases c1 : S_VE_lackOf σ a (nI k) (σ.1 5 K k) ≤ 0
      · rw [if_pos c1, if_pos c1]
        exact ih (k + 1) p (by omega) (by omega) hp (by omega)
      · rw [if_neg c1, if_neg c1]
        by_cases c2 : p = Q
        · subst c2
          rw [if_pos rfl, Nat.sub_self, if_pos nI_0]
          exact Or.inr ⟨k, hk, rfl, rfl⟩
        · have d1 : ¬ nI p = nI Q := fun q => by
            have q := congrArg Int32.toInt q
            rw [nI_toInt (by omega), nI_toInt hQ] at q
            omega
          have d2 : ¬ nI (Q - p) = 0 := fun q => by
            have q := congrArg Int32.toInt q
            rw [nI_toInt (by omega)] at q
            have n0 : (0 : Int32).toInt = 0 := rfl
            omega
          rw [if_neg d1, if_neg d2, nI_1, show Q - p = Q - (p + 1) + 1 by omega, pk_m1]
          exact ih (k + 1) (p + 1) (by omega) (by omega) (by omega) (by omega)
theorem sh_all {σ : XS} {a K : Nat} (ha : a < 16) (hK : K < 6) (hne : ∀ j, j < 240 → 0 ≤ (σ.1 5 K j).toInt ∧ (σ.1 5 K j).toInt ≤ 99) (hco : ∀ j, j < 240 → 0 ≤ (σ.1 12 a j).toInt ∧ (σ.1 12 a j).toInt ≤ 99) : ∀ (n k : Nat) (x y : Int32), k + n = 241 → k < 241 →
    ∃ x' y' : Int32, L_LC_share n σ a K x y (nI k) = (if x' = 0 then .inr ARE else .inl (1000 * y' / x')) ∧ ∀ τ, MV σ τ a K → L_MO_share n τ (nI a) 0 x y (nI k) = (if x' = 0 then (0, xuI τ 15 0 0 2) else (1000 * y' / x', xuI τ 15 0 0 0)) := by
  intro n
  induction n with
  | zero => intro k x y h1 h2; omega
  | succ n ih =>
    intro k x y h1 h2
    by_cases c9 : (240 : Int32) ≤ nI k
    · refine ⟨x, y, ?_, fun τ m => ?_⟩
      · rw [L_LC_share, if_pos c9]
        rfl
      · rw [L_MO_share, if_pos c9, thr_2, thr_z, if_pos rfl, thr_0]
    · have hk : k < 240 := x_klt (b := 240) rfl (by decide) (by omega) rfl c9
      obtain ⟨x', y', e1, e2⟩ := ih (k + 1) (x + σ.1 5 K k) (y + (if σ.1 5 K k < σ.1 12 a k then σ.1 5 K k else σ.1 12 a k)) (by omega) (by omega)
      refine ⟨x', y', ?_, fun τ m => ?_⟩
      · rw [L_LC_share, if_neg c9, ix_1 (by omega), nI_1]
        exact e1
      · rw [L_MO_share, if_neg c9, if_pos rfl, lk m ha hK hk, nI_1, ix_1 (a := a) (by omega), m.1, ix_240 (show K < 16 by omega) hk, m.2.2 k hk, ← e2 τ m]
        congr 1
        have b1 := hne k hk
        have b2 := hco k hk
        unfold S_VE_lackOf
        rw [ix_1 (by omega)]
        have e3 : (σ.1 5 K k - σ.1 12 a k).toInt = (σ.1 5 K k).toInt - (σ.1 12 a k).toInt := i_sub (by omega) (by omega)
        have n0 : (0 : Int32).toInt = 0 := rfl
        by_cases c : σ.1 5 K k < σ.1 12 a k
        · rw [if_pos c, if_pos (by rw [Int32.lt_iff_toInt_lt] at c ⊢; omega), Int32.sub_zero]
        · rw [if_neg c, if_neg (by rw [Int32.lt_iff_toInt_lt] at c ⊢; omega)]
          refine congrArg (y + ·) (Int32.toInt_inj.mp ?_)
          rw [i_sub (by rw [e3]; omega) (by rw [e3]; omega), e3]
          omega
theorem sh_bad {σ : XS} {v : Int32} : L_MO_share 241 σ v 1 0 0 0 = (0, xuI σ 15 0 0 1) := by
  rw [L_MO_share, if_neg (by decide), if_neg i1n0, if_pos rfl, thr_1]
set_option maxHeartbeats 4000000 in
theorem r_missing {t : Nat} {σ : XS} (h : Rel t σ) (ht : t < 512) (v q : Int32) : Rel (t + 1) (S_MO_missing (S_LW_missing σ v q).2 v q).2 ∧ S_MO_thrown (S_MO_missing (S_LW_missing σ v q).2 v q).2 = (S_LW_missing σ v q).1 ∧ ((S_LW_missing σ v q).1 = 0 → (S_MO_missing (S_LW_missing σ v q).2 v q).2.2 31 0 0 = ((S_MO_missing (S_LW_missing σ v q).2 v q).1).toInt64) := by
  by_cases hv : isv σ v
  · obtain ⟨a, ha, hav, rfl⟩ := isv_of h hv
    by_cases h1 : 0 ≤ q
    · obtain ⟨Q, hQ, rfl⟩ := nI_of (x := q) (Int32.not_lt.mpr h1)
      obtain ⟨K, hK, eK, eC⟩ := h.K ha
      have mc : (S_VE_missingCell σ a K (nI Q) = -1) ∨ ∃ j, j < 240 ∧ S_VE_missingCell σ a K (nI Q) = nI j := by
        rcases mi_all (h.mv ha hK eK) ha hK hQ 241 0 0 rfl (by decide) (by omega) (by omega) with ⟨e1, -⟩ | ⟨j, hj, e1, -⟩
        · exact Or.inl e1
        · exact Or.inr ⟨j, hj, e1⟩
      have key : ∀ x : Int64, MV σ (xuI (xuL σ 31 0 0 x) 15 0 0 0) a K := fun x => h.mv ha hK eK
      rcases mc with e5 | ⟨j, hj, e5⟩
      · have e1 : S_LW_missing σ (nI a) (nI Q) = (0, xuL σ 31 0 0 (-1 : Int32).toInt64) := by
          simp only [ix_1 (show a < 2 ^ 31 by omega), S_LW_missing, S_LC_missing, kv_p h hv, h1, xbp_l, xbp_r, xca_l, xca_r, i1n0, if_true, if_false, ite_self, eC, e5, show ((-1 : Int32) < 0) = True from eq_true (by decide)]
        have e2 : S_MO_missing (xuL σ 31 0 0 (-1 : Int32).toInt64) (nI a) (nI Q) = (-1, xuI (xuL σ 31 0 0 (-1 : Int32).toInt64) 15 0 0 0) := by
          simp only [ix_1 (show a < 2 ^ 31 by omega), S_MO_missing, iv_p (σ := (xuL σ 31 0 0 (-1 : Int32).toInt64)) h.nvr hv, h1, thr_0, xbp_l, xbp_r, xca_l, xca_r, i1n0, if_true, if_false, ite_self]
          rcases mi_all (key (-1 : Int32).toInt64) ha hK hQ 241 0 0 rfl (by decide) (by omega) (by omega) with ⟨z1, z2⟩ | ⟨j, hj, z1, z2⟩
          · exact z2
          · have z3 : (nI j) = -1 := z1.symm.trans e5
            have z4 := congrArg Int32.toInt z3
            rw [nI_toInt (by omega)] at z4
            have n1 : (-1 : Int32).toInt = -1 := rfl
            omega
        rw [e1]
        show Rel (t + 1) (S_MO_missing (xuL σ 31 0 0 (-1 : Int32).toInt64) (nI a) (nI Q)).2 ∧ S_MO_thrown (S_MO_missing (xuL σ 31 0 0 (-1 : Int32).toInt64) (nI a) (nI Q)).2 = 0 ∧ ((0 : Int32) = 0 → _)
        rw [e2]
        exact ⟨(h.out _).thr 0, rfl, fun _ => rfl⟩
      · have c1 : ¬ nI j < 0 := by
          rw [Int32.lt_iff_toInt_lt, nI_toInt (by omega)]
          have n0 : (0 : Int32).toInt = 0 := rfl
          omega
        have c2 : nI j < 240 := by
          rw [Int32.lt_iff_toInt_lt, nI_toInt (by omega)]
          have n0 : (240 : Int32).toInt = 240 := rfl
          omega
        have e1 : S_LW_missing σ (nI a) (nI Q) = (0, xuL σ 31 0 0 (10000 * (nI j / 30) + 100 * (nI j - nI j / 30 * 30) + S_VE_lackOf σ a (nI j) (σ.1 5 K j)).toInt64) := by
          simp only [ix_1 (show a < 2 ^ 31 by omega), S_LW_missing, S_LC_missing, kv_p h hv, h1, xbp_l, xbp_r, xca_l, xca_r, i1n0, if_true, if_false, ite_self, eC, e5, c1, c2, ix_1 (show j < 2 ^ 31 by omega)]
        have e2 : S_MO_missing (xuL σ 31 0 0 (10000 * (nI j / 30) + 100 * (nI j - nI j / 30 * 30) + S_VE_lackOf σ a (nI j) (σ.1 5 K j)).toInt64) (nI a) (nI Q) = (10000 * (nI j / 30) + 100 * (nI j - nI j / 30 * 30) + S_VE_lackOf σ a (nI j) (σ.1 5 K j), xuI (xuL σ 31 0 0 (10000 * (nI j / 30) + 100 * (nI j - nI j / 30 * 30) + S_VE_lackOf σ a (nI j) (σ.1 5 K j)).toInt64) 15 0 0 0) := by
          simp only [ix_1 (show a < 2 ^ 31 by omega), S_MO_missing, iv_p (σ := (xuL σ 31 0 0 (10000 * (nI j / 30) + 100 * (nI j - nI j / 30 * 30) + S_VE_lackOf σ a (nI j) (σ.1 5 K j)).toInt64)) h.nvr hv, h1, thr_0, xbp_l, xbp_r, xca_l, xca_r, i1n0, if_true, if_false, ite_self]
          rcases mi_all (key (10000 * (nI j / 30) + 100 * (nI j - nI j / 30 * 30) + S_VE_lackOf σ a (nI j) (σ.1 5 K j)).toInt64) ha hK hQ 241 0 0 rfl (by decide) (by omega) (by omega) with ⟨z1, z2⟩ | ⟨i, hi, z1, z2⟩
          · have z3 : -1 = (nI j) := z1.symm.trans e5
            have z4 := congrArg Int32.toInt z3
            rw [nI_toInt (by omega)] at z4
            have n1 : (-1 : Int32).toInt = -1 := rfl
            omega
          · have z3 : (nI i) = nI j := z1.symm.trans e5
            have z4 := congrArg Int32.toInt z3
            rw [nI_toInt (by omega), nI_toInt (by omega)] at z4
            have z5 : i = j := by omega
            subst z5
            exact z2
        rw [e1]
        generalize 10000 * (nI j / 30) + 100 * (nI j - nI j / 30 * 30) + S_VE_lackOf σ a (nI j) (σ.1 5 K j) = X at e2 ⊢
        show Rel (t + 1) (S_MO_missing (xuL σ 31 0 0 X.toInt64) (nI a) (nI Q)).2 ∧ S_MO_thrown (S_MO_missing (xuL σ 31 0 0 X.toInt64) (nI a) (nI Q)).2 = 0 ∧ ((0 : Int32) = 0 → _)
        rw [e2]
        exact ⟨(h.out _).thr 0, rfl, fun _ => rfl⟩
    · have e1 : S_LW_missing σ (nI a) q = (2, σ) := by
        simp only [ix_1 (show a < 2 ^ 31 by omega), S_LW_missing, S_LC_missing, kv_p h hv, h1, show ("java/lang/IndexOutOfBoundsException" = "java/lang/IllegalArgumentException") = False from ex_ba, xbp_l, xbp_r, xca_l, xca_r, i1n0, if_true, if_false, ite_self]
        try rfl
      have e2 : S_MO_missing σ (nI a) q = (0, xuI σ 15 0 0 2) := by
        simp only [ix_1 (show a < 2 ^ 31 by omega), S_MO_missing, iv_p (σ := σ) h.nvr hv, h1, thr_2, xbp_l, xbp_r, xca_l, xca_r, i1n0, if_true, if_false, ite_self]
        try rfl
      rw [e1]
      show Rel (t + 1) (S_MO_missing σ (nI a) q).2 ∧ S_MO_thrown (S_MO_missing σ (nI a) q).2 = 2 ∧ ((2 : Int32) = 0 → _)
      rw [e2]
      exact ⟨h.thr 2, rfl, fun q => absurd q (by decide)⟩
  · have e1 : S_LW_missing σ v q = (1, σ) := by
      simp only [S_LW_missing, S_LC_missing, kv_n h hv, ex_aa, xbp_l, xbp_r, xca_l, xca_r, i1n0, if_true, if_false, ite_self]
      try rfl
    have e2 : S_MO_missing σ v q = (0, xuI σ 15 0 0 1) := by
      simp only [S_MO_missing, iv_n (σ := σ) h.nvr hv, thr_1, xbp_l, xbp_r, xca_l, xca_r, i1n0, if_true, if_false, ite_self]
      try rfl
    rw [e1]
    show Rel (t + 1) (S_MO_missing σ v q).2 ∧ S_MO_thrown (S_MO_missing σ v q).2 = 1 ∧ ((1 : Int32) = 0 → _)
    rw [e2]
    exact ⟨h.thr 1, rfl, fun q => absurd q (by decide)⟩

set_option maxHeartbeats 4000000 in
theorem r_share {t : Nat} {σ : XS} (h : Rel t σ) (ht : t < 512) (v : Int32) : Rel (t + 1) (S_MO_share (S_LW_share σ v).2 v).2 ∧ S_MO_thrown (S_MO_share (S_LW_share σ v).2 v).2 = (S_LW_share σ v).1 ∧ ((S_LW_share σ v).1 = 0 → (S_MO_share (S_LW_share σ v).2 v).2.2 31 0 0 = ((S_MO_share (S_LW_share σ v).2 v).1).toInt64) := by
  by_cases hv : isv σ v
  · obtain ⟨a, ha, hav, rfl⟩ := isv_of h hv
    obtain ⟨K, hK, eK, eC⟩ := h.K ha
    obtain ⟨x, y, z1, z2⟩ := sh_all (σ := σ) ha hK (fun j hj => by rw [h.ne K hK j hj]; exact h.ner _ (by omega)) (fun j hj => by rw [h.co a ha j hj]; exact h.cor _ (by omega)) 241 0 0 0 rfl (by decide)
    have z1 : L_LC_share 241 σ a K 0 0 0 = _ := z1
    have key : ∀ w : Int64, MV σ (xuL σ 31 0 0 w) a K := fun w => h.mv ha hK eK
    by_cases hx : x = 0
    · rw [if_pos hx] at z1
      have z3 := z2 σ (h.mv ha hK eK)
      rw [if_pos hx] at z3
      have z3 : L_MO_share 241 σ (nI a) 0 0 0 0 = _ := z3
      have e1 : S_LW_share σ (nI a) = (2, σ) := by
        simp only [ix_1 (show a < 2 ^ 31 by omega), S_LW_share, S_LC_share, kv_p h hv, xbp_l, xbp_r, xca_l, xca_r, i1n0, if_true, if_false, ite_self, eC, z1, ex_ea]
      have e2 : S_MO_share σ (nI a) = (0, xuI σ 15 0 0 2) := by
        simp only [ix_1 (show a < 2 ^ 31 by omega), S_MO_share, iv_p (σ := σ) h.nvr hv, thr_0, xbp_l, xbp_r, xca_l, xca_r, i1n0, if_true, if_false, ite_self, z3]
      rw [e1]
      show Rel (t + 1) (S_MO_share σ (nI a)).2 ∧ S_MO_thrown (S_MO_share σ (nI a)).2 = 2 ∧ ((2 : Int32) = 0 → _)
      rw [e2]
      exact ⟨h.thr 2, rfl, fun q => absurd q (by decide)⟩
    · rw [if_neg hx] at z1
      have z3 := z2 _ (key (1000 * y / x).toInt64)
      rw [if_neg hx] at z3
      have z3 : L_MO_share 241 (xuL σ 31 0 0 (1000 * y / x).toInt64) (nI a) 0 0 0 0 = _ := z3
      have e1 : S_LW_share σ (nI a) = (0, xuL σ 31 0 0 (1000 * y / x).toInt64) := by
        simp only [ix_1 (show a < 2 ^ 31 by omega), S_LW_share, S_LC_share, kv_p h hv, xbp_l, xbp_r, xca_l, xca_r, i1n0, if_true, if_false, ite_self, eC, z1]
      have e2 : S_MO_share (xuL σ 31 0 0 (1000 * y / x).toInt64) (nI a) = (1000 * y / x, xuI (xuL σ 31 0 0 (1000 * y / x).toInt64) 15 0 0 0) := by
        simp only [ix_1 (show a < 2 ^ 31 by omega), S_MO_share, iv_p (σ := (xuL σ 31 0 0 (1000 * y / x).toInt64)) h.nvr hv, thr_0, xbp_l, xbp_r, xca_l, xca_r, i1n0, if_true, if_false, ite_self, z3]
      rw [e1]
      show Rel (t + 1) (S_MO_share (xuL σ 31 0 0 (1000 * y / x).toInt64) (nI a)).2 ∧ S_MO_thrown (S_MO_share (xuL σ 31 0 0 (1000 * y / x).toInt64) (nI a)).2 = 0 ∧ ((0 : Int32) = 0 → _)
      rw [e2]
      exact ⟨(h.out _).thr 0, rfl, fun _ => rfl⟩
  · have e1 : S_LW_share σ v = (1, σ) := by
      simp only [S_LW_share, S_LC_share, kv_n h hv, ex_aa, xbp_l, xbp_r, xca_l, xca_r, i1n0, if_true, if_false, ite_self]
      try rfl
    have e2 : S_MO_share σ v = (0, xuI σ 15 0 0 1) := by
      simp only [S_MO_share, iv_n (σ := σ) h.nvr hv, sh_bad, thr_1, xbp_l, xbp_r, xca_l, xca_r, i1n0, if_true, if_false, ite_self]
      try rfl
    rw [e1]
    show Rel (t + 1) (S_MO_share σ v).2 ∧ S_MO_thrown (S_MO_share σ v).2 = 1 ∧ ((1 : Int32) = 0 → _)
    rw [e2]
    exact ⟨h.thr 1, rfl, fun q => absurd q (by decide)⟩
