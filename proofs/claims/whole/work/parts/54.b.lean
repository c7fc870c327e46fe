def comb (σ τ : XS) : XS := (fun r i j => if r < 15 then σ.1 r i j else τ.1 r i j, fun r i j => if r < 15 then σ.2 r i j else τ.2 r i j)
theorem comb_self (σ : XS) : comb σ σ = σ := by
  refine Prod.ext ?_ ?_
  · funext r i j
    exact ite_self _
  · funext r i j
    exact ite_self _
theorem Rel.stk {t : Nat} {σ : XS} (h : Rel t σ) {c : Nat} {y : Int32} (hy : 0 ≤ y.toInt ∧ y.toInt ≤ 10000) : Rel t (xuI (xuI σ 3 0 c y) 18 0 c y) := by
  refine ⟨h.nv, h.nvr, h.dy, h.sh, h.dyr, h.shr, h.we, h.wer, h.le, ?st, ?str, h.ne, h.ner, h.co, h.cor, h.coz, h.kd, h.kdr, h.ba, h.bar, h.fr, h.frr, h.re, h.rer, h.pl, h.plr, h.se, h.ser, h.en, h.enz, h.enr, h.bt, h.btz, h.ck, h.ckz, h.gr, h.mo, h.rw, h.rwr, h.to⟩
  case st =>
    intro i hi
    by_cases q : i = c
    · rw [q, xu_s, xu_o _ _ _ _ _ (by decide), xu_s]
    · rw [xu_j _ _ _ _ _ q, xu_j _ _ _ _ _ q, xu_j _ _ _ _ _ q, xu_j _ _ _ _ _ q]
      exact h.st i hi
  case str =>
    intro i hi
    by_cases q : i = c
    · rw [q, xu_s]
      exact hy
    · rw [xu_j _ _ _ _ _ q, xu_j _ _ _ _ _ q]
      exact h.str i hi
theorem d30 {k : Nat} (hk : k < 240) : nI k / (30 : Int32) = nI (k / 30) := pk_div (by omega) (by decide) (by decide)
theorem r30 {k : Nat} (hk : k < 240) : nI k - nI k / (30 : Int32) * (30 : Int32) = nI (k % 30) := pk_rem (by omega) (by decide) (by decide)
def Fr (σ σ' : XS) : Prop := ∀ r i j, 15 ≤ r → σ'.1 r i j = σ.1 r i j ∧ σ'.2 r i j = σ.2 r i j
def Fm (τ τ' : XS) : Prop := τ'.2 = τ.2 ∧ (∀ r i j, r < 15 → τ'.1 r i j = τ.1 r i j) ∧ τ'.1 15 0 0 = τ.1 15 0 0
theorem cb_be {t : Nat} {σ τ : XS} (h : Rel t (comb σ τ)) {a j : Nat} {n : Int32} (ha : a < 16) (hav : (a : Int) < (τ.1 15 0 6).toInt) (hJ : j < 240) (hn : 1 ≤ n.toInt ∧ n.toInt ≤ 99) : (TM (comb σ τ) a j n.toInt → S_VE_bears σ a (nI j) n (σ.1 1 0 (j % 30)) = 0) ∧ (¬ TM (comb σ τ) a j n.toInt → S_VE_bears σ a (nI j) n (σ.1 1 0 (j % 30)) = 1) := be_all h (a := a) (j := j) (n := n) (w := σ.1 1 0 (j % 30)) ha hav hJ (h.we _ (by omega)) hn
theorem cb_gw (σ τ : XS) : gw (comb σ τ) = gw τ := by
  funext v j
  rfl
theorem cb_gm (σ τ : XS) : gm (comb σ τ) = gm τ := by
  funext v j
  rfl
theorem cb_tm (σ τ : XS) (a j : Nat) (N : Int) : TM (comb σ τ) a j N = TM τ a j N := by
  unfold TM GG MM dFf dRr LF LR
  rw [cb_gw, cb_gm]
  rfl
theorem cb_st {t : Nat} {σ τ : XS} {a k : Nat} {M y w : Int32} {x : Int32} (h : Rel t (xuI (xuI (xuI (ldc (comb σ τ) a k M w) 28 0 (240 * a + k) x) 3 0 (k % 30) y) 18 0 (k % 30) y)) : Rel t (comb (xuI (ldc σ a k M w) 3 0 (k % 30) y) (xuI (xuI τ 28 0 (240 * a + k) x) 18 0 (k % 30) y)) := by
  have e : comb (xuI (ldc σ a k M w) 3 0 (k % 30) y) (xuI (xuI τ 28 0 (240 * a + k) x) 18 0 (k % 30) y) = xuI (xuI (xuI (ldc (comb σ τ) a k M w) 28 0 (240 * a + k) x) 3 0 (k % 30) y) 18 0 (k % 30) y := by
    refine Prod.ext ?_ ?_
    · funext r i j
      show (if r < 15 then (if r = 3 ∧ j = k % 30 ∧ i = 0 then y else if r = 12 ∧ j = k ∧ i = a then σ.1 12 a k + M else σ.1 r i j) else (if r = 18 ∧ j = k % 30 ∧ i = 0 then y else if r = 28 ∧ j = 240 * a + k ∧ i = 0 then x else τ.1 r i j)) = (if r = 18 ∧ j = k % 30 ∧ i = 0 then y else if r = 3 ∧ j = k % 30 ∧ i = 0 then y else if r = 28 ∧ j = 240 * a + k ∧ i = 0 then x else if r = 12 ∧ j = k ∧ i = a then σ.1 12 a k + M else (if r < 15 then σ.1 r i j else τ.1 r i j))
      repeat' split
      all_goals first | rfl | (exfalso; omega)
    · funext r i j
      show (if r < 15 then (if r = 9 ∧ j = 12 ∧ i = a then σ.2 9 a 12 + w.toInt64 * M.toInt64 * (σ.1 10 a (k / 30)).toInt64 else if r = 9 ∧ j = 11 ∧ i = a then σ.2 9 a 11 + w.toInt64 * M.toInt64 else σ.2 r i j) else τ.2 r i j) = (if r = 9 ∧ j = 12 ∧ i = a then σ.2 9 a 12 + w.toInt64 * M.toInt64 * (σ.1 10 a (k / 30)).toInt64 else if r = 9 ∧ j = 11 ∧ i = a then σ.2 9 a 11 + w.toInt64 * M.toInt64 else (if r < 15 then σ.2 r i j else τ.2 r i j))
      repeat' split
      all_goals first | rfl | (exfalso; omega)
  rw [e]
  exact h
set_option maxHeartbeats 4000000 in
theorem rp_all {t a K : Nat} (ha : a < 16) (hK : K < 6) : ∀ (n k : Nat) (x : Int32) (σ τ : XS), k + n = 241 → k < 241 → Rel t (comb σ τ) → (a : Int) < (τ.1 15 0 6).toInt → τ.1 19 0 a = nI K →
    ∃ (x' : Int32) (σ' τ' : XS), L_LC_replace n σ a K x (nI k) = .inl (x', σ') ∧ L_MO_replace n τ (nI a) x (nI k) = (x', τ') ∧ Rel t (comb σ' τ') ∧ Fr σ σ' ∧ Fm τ τ' := by
  intro n
  induction n with
  | zero => intro k x σ τ h1 h2; omega
  | succ n ih =>
    intro k x σ τ h1 h2 h hav eK
    rw [L_LC_replace, L_MO_replace]
    by_cases c9 : (240 : Int32) ≤ nI k
    · rw [if_pos c9, if_pos c9]
      exact ⟨x, σ, τ, rfl, rfl, h, fun _ _ _ _ => ⟨rfl, rfl⟩, rfl, fun _ _ _ _ => rfl, rfl⟩
    · have hk : k < 240 := x_klt (b := 240) rfl (by decide) (by omega) rfl c9
      have mv : MV σ τ a K := h.mv ha hK eK
      have est : τ.1 18 0 (k % 30) = σ.1 3 0 (k % 30) := (h.st (k % 30) (by omega)).symm
      have hst : 0 ≤ (σ.1 3 0 (k % 30)).toInt ∧ (σ.1 3 0 (k % 30)).toInt ≤ 10000 := by
        rw [← est]
        exact h.str (k % 30) (by omega)
      have hne : 0 ≤ (σ.1 5 K k).toInt ∧ (σ.1 5 K k).toInt ≤ 99 := by
        have := h.ner (240 * K + k) (by omega)
        have e := h.ne K hK k hk
        have e : σ.1 5 K k = τ.1 29 0 (240 * K + k) := e
        rw [e]
        exact this
      have hco : 0 ≤ (σ.1 12 a k).toInt ∧ (σ.1 12 a k).toInt ≤ 99 := by
        have := h.cor (240 * a + k) (by omega)
        have e : σ.1 12 a k = τ.1 28 0 (240 * a + k) := h.co a ha k hk
        rw [e]
        exact this
      have e28 : τ.1 28 0 (240 * a + k) = σ.1 12 a k := mv.2.1 k hk
      have hlk : (S_VE_lackOf σ a (nI k) (σ.1 5 K k)).toInt ≤ 99 ∧ (S_VE_lackOf σ a (nI k) (σ.1 5 K k)).toInt + (σ.1 12 a k).toInt ≤ 99 := by
        unfold S_VE_lackOf
        rw [ix_1 (by omega)]
        have e3 : (σ.1 5 K k - σ.1 12 a k).toInt = (σ.1 5 K k).toInt - (σ.1 12 a k).toInt := i_sub (by omega) (by omega)
        have n0 : (0 : Int32).toInt = 0 := rfl
        by_cases c : σ.1 5 K k - σ.1 12 a k < 0
        · rw [if_pos c]
          omega
        · rw [if_neg c, e3]
          omega
      rw [if_neg c9, if_neg c9, ix_rem hk, ix_1 (a := k) (by omega), lk mv ha hK hk, est, ix_240 ha hk, r30 hk, d30 hk, nI_1]
      have step : ∀ M : Int32, M.toInt ≤ (S_VE_lackOf σ a (nI k) (σ.1 5 K k)).toInt → M.toInt ≤ (σ.1 3 0 (k % 30)).toInt →
          ∃ (x' : Int32) (σ' τ' : XS), (if M ≤ 0 then L_LC_replace n σ a K x (nI (k + 1)) else if S_VE_bears σ a (nI k) M (σ.1 1 0 (k % 30)) = 0 then L_LC_replace n σ a K x (nI (k + 1)) else L_LC_replace n (xuI (S_VE_load σ a (nI k) M (σ.1 1 0 (k % 30))).2 3 0 (k % 30) ((S_VE_load σ a (nI k) M (σ.1 1 0 (k % 30))).2.1 3 0 (k % 30) - M)) a K (x + M) (nI (k + 1))) = .inl (x', σ') ∧
            (if M ≤ 0 then L_MO_replace n τ (nI a) x (nI (k + 1)) else if (S_MO_isTooMuch τ (nI a) (nI (k / 30)) (nI (k % 30)) M).1 = 0 then L_MO_replace n (xuI (xuI τ 28 0 (240 * a + k) (τ.1 28 0 (240 * a + k) + M)) 18 0 (k % 30) ((xuI τ 28 0 (240 * a + k) (τ.1 28 0 (240 * a + k) + M)).1 18 0 (k % 30) - M)) (nI a) (x + M) (nI (k + 1)) else L_MO_replace n τ (nI a) x (nI (k + 1))) = (x', τ') ∧ Rel t (comb σ' τ') ∧ Fr σ σ' ∧ Fm τ τ' := by
        intro M hM1 hM2
        by_cases c0 : M ≤ 0
        · rw [if_pos c0, if_pos c0]
          exact ih (k + 1) x σ τ (by omega) (by omega) h hav eK
        · rw [if_neg c0, if_neg c0]
          rw [Int32.le_iff_toInt_le] at c0
          have n0 : (0 : Int32).toInt = 0 := rfl
          have hn : 1 ≤ M.toInt ∧ M.toInt ≤ 99 := by omega
          have mb : MB τ a := h.mb ha hav
          have tmA := tm_all (σ := τ) (a := a) (b := k / 30) (c := k % 30) (n := M) mb ha (by omega) (by omega) hn
          rw [show 30 * (k / 30) + k % 30 = k by omega] at tmA
          have beA := cb_be h (a := a) (j := k) (n := M) ha hav hk hn
          rw [cb_tm] at beA
          by_cases hT : TM τ a k M.toInt
          · rw [beA.1 hT, tmA.1 hT, if_pos rfl, if_neg i1n0]
            exact ih (k + 1) x σ τ (by omega) (by omega) h hav eK
          · rw [beA.2 hT, tmA.2 hT, if_neg i1n0, if_pos rfl, ve_ld _ _ _ hk, ldc_r _ _ _ (by decide), xu_o _ _ _ _ _ (by decide), est]
            have hs : (σ.1 3 0 (k % 30) - M).toInt = (σ.1 3 0 (k % 30)).toInt - M.toInt := i_sub (by omega) (by omega)
            have h3 := (h.load (a := a) (j := k) (n := M) (w := σ.1 1 0 (k % 30)) ha hav hk (h.we _ (by omega)) (by omega) (by show 0 ≤ (τ.1 28 0 (240 * a + k)).toInt + M.toInt ∧ (τ.1 28 0 (240 * a + k)).toInt + M.toInt ≤ 99; rw [e28]; omega)).stk (c := k % 30) (y := σ.1 3 0 (k % 30) - M) (by omega)
            have h5 := cb_st h3
            obtain ⟨x', σ', τ', g1, g2, g3, g4, g5⟩ := ih (k + 1) (x + M) _ _ (by omega) (by omega) h5 hav eK
            refine ⟨x', σ', τ', g1, g2, g3, fun r i j hr => ?_, g5.1, fun r i j hr => ?_, g5.2.2⟩
            · obtain ⟨p1, p2⟩ := g4 r i j hr
              refine ⟨p1.trans ?_, p2.trans ?_⟩
              · rw [xu_o _ _ _ _ _ (by omega), ldc_r _ _ _ (by omega)]
              · show (if r = 9 ∧ j = 12 ∧ i = a then _ else if r = 9 ∧ j = 11 ∧ i = a then _ else σ.2 r i j) = _
                rw [if_neg (by omega), if_neg (by omega)]
            · rw [g5.2.1 r i j hr, xu_o _ _ _ _ _ (by omega), xu_o _ _ _ _ _ (by omega)]
      by_cases c : σ.1 3 0 (k % 30) ≤ S_VE_lackOf σ a (nI k) (σ.1 5 K k)
      · rw [if_pos c]
        have em : (if σ.1 3 0 (k % 30) < S_VE_lackOf σ a (nI k) (σ.1 5 K k) then σ.1 3 0 (k % 30) else S_VE_lackOf σ a (nI k) (σ.1 5 K k)) = σ.1 3 0 (k % 30) := by
          by_cases c2 : σ.1 3 0 (k % 30) < S_VE_lackOf σ a (nI k) (σ.1 5 K k)
          · rw [if_pos c2]
          · rw [if_neg c2]
            exact Int32.le_antisymm (Int32.not_lt.mp c2) c
        rw [em]
        rw [Int32.le_iff_toInt_le] at c
        exact step _ c (Int.le_refl _)
      · rw [if_neg c]
        have em : (if σ.1 3 0 (k % 30) < S_VE_lackOf σ a (nI k) (σ.1 5 K k) then σ.1 3 0 (k % 30) else S_VE_lackOf σ a (nI k) (σ.1 5 K k)) = S_VE_lackOf σ a (nI k) (σ.1 5 K k) := by
          rw [if_neg (fun q => c (Int32.le_of_lt q))]
        rw [em]
        rw [Int32.le_iff_toInt_le] at c
        exact step _ (Int.le_refl _) (by omega)
set_option maxHeartbeats 4000000 in
theorem r_replace {t : Nat} {σ : XS} (h : Rel t σ) (ht : t < 512) (v : Int32) : Rel (t + 1) (S_MO_replace (S_LW_replace σ v).2 v).2 ∧ S_MO_thrown (S_MO_replace (S_LW_replace σ v).2 v).2 = (S_LW_replace σ v).1 ∧ ((S_LW_replace σ v).1 = 0 → (S_MO_replace (S_LW_replace σ v).2 v).2.2 31 0 0 = ((S_MO_replace (S_LW_replace σ v).2 v).1).toInt64) := by
  by_cases hv : isv σ v
  · obtain ⟨a, ha, hav, rfl⟩ := isv_of h hv
    obtain ⟨K, hK, eK, eC⟩ := h.K ha
    obtain ⟨x, σ', τ0, z1, -, -, z4, -⟩ := rp_all (t := t) ha hK 241 0 0 σ σ rfl (by decide) (by rw [comb_self]; exact h) hav eK
    have z1 : L_LC_replace 241 σ a K 0 0 = .inl (x, σ') := z1
    have hcb : Rel t (comb σ (xuI (xuL σ' 31 0 0 x.toInt64) 15 0 0 0)) := by
      have e : comb σ (xuI (xuL σ' 31 0 0 x.toInt64) 15 0 0 0) = xuI (xuL σ 31 0 0 x.toInt64) 15 0 0 0 := by
        refine Prod.ext ?_ ?_
        · funext r i j
          show (if r < 15 then σ.1 r i j else if r = 15 ∧ j = 0 ∧ i = 0 then 0 else σ'.1 r i j) = (if r = 15 ∧ j = 0 ∧ i = 0 then 0 else σ.1 r i j)
          by_cases q : r < 15
          · rw [if_pos q, if_neg (by omega)]
          · rw [if_neg q, (z4 r i j (by omega)).1]
        · funext r i j
          show (if r < 15 then σ.2 r i j else if r = 31 ∧ j = 0 ∧ i = 0 then x.toInt64 else σ'.2 r i j) = (if r = 31 ∧ j = 0 ∧ i = 0 then x.toInt64 else σ.2 r i j)
          by_cases q : r < 15
          · rw [if_pos q, if_neg (by omega)]
          · rw [if_neg q, (z4 r i j (by omega)).2]
      rw [e]
      have h := h
      exact ⟨h.nv, h.nvr, h.dy, h.sh, h.dyr, h.shr, h.we, h.wer, h.le, h.st, h.str, h.ne, h.ner, h.co, h.cor, h.coz, h.kd, h.kdr, h.ba, h.bar, h.fr, h.frr, h.re, h.rer, h.pl, h.plr, h.se, h.ser, h.en, h.enz, h.enr, h.bt, h.btz, h.ck, h.ckz, h.gr, h.mo, h.rw, h.rwr, h.to⟩
    have s15 : (xuI (xuL σ' 31 0 0 x.toInt64) 15 0 0 0).1 15 0 6 = σ.1 15 0 6 := (z4 15 0 6 (by decide)).1
    have s19 : (xuI (xuL σ' 31 0 0 x.toInt64) 15 0 0 0).1 19 0 a = nI K := ((z4 19 0 a (by decide)).1).trans eK
    obtain ⟨x2, σ2, τ', y1, y2, y3, y4, y5⟩ := rp_all (t := t) ha hK 241 0 0 σ (xuI (xuL σ' 31 0 0 x.toInt64) 15 0 0 0) rfl (by decide) hcb (by rw [s15]; exact hav) s19
    have y1 : L_LC_replace 241 σ a K 0 0 = .inl (x2, σ2) := y1
    have y6 := Sum.inl.inj (y1.symm.trans z1)
    obtain ⟨rfl, rfl⟩ := Prod.mk.inj y6
    have y2 : L_MO_replace 241 (xuI (xuL σ2 31 0 0 x2.toInt64) 15 0 0 0) (nI a) 0 0 = (x2, τ') := y2
    have nvr2 : 0 ≤ ((xuL σ2 31 0 0 x2.toInt64).1 15 0 6).toInt ∧ ((xuL σ2 31 0 0 x2.toInt64).1 15 0 6).toInt ≤ 16 := by
      have e : (xuL σ2 31 0 0 x2.toInt64).1 15 0 6 = σ.1 15 0 6 := (z4 15 0 6 (by decide)).1
      rw [e]
      exact h.nvr
    have hv2 : isv (xuL σ2 31 0 0 x2.toInt64) (nI a) := by
      unfold isv
      have e : (xuL σ2 31 0 0 x2.toInt64).1 15 0 6 = σ.1 15 0 6 := (z4 15 0 6 (by decide)).1
      rw [e]
      exact hv
    have e1 : S_LW_replace σ (nI a) = (0, xuL σ2 31 0 0 x2.toInt64) := by
      simp only [S_LW_replace, S_LC_replace, kv_p h hv, xbp_l, ix_1 (show a < 2 ^ 31 by omega), eC, y1, xca_l]
    have e2 : S_MO_replace (xuL σ2 31 0 0 x2.toInt64) (nI a) = (x2, τ') := by
      simp only [S_MO_replace, iv_p nvr2 hv2, i1n0, if_false, thr_0, y2]
    rw [e1]
    show Rel (t + 1) (S_MO_replace (xuL σ2 31 0 0 x2.toInt64) (nI a)).2 ∧ S_MO_thrown (S_MO_replace (xuL σ2 31 0 0 x2.toInt64) (nI a)).2 = 0 ∧ ((0 : Int32) = 0 → _)
    rw [e2]
    have eT : comb σ2 τ' = τ' := by
      refine Prod.ext ?_ ?_
      · funext r i j
        show (if r < 15 then σ2.1 r i j else τ'.1 r i j) = τ'.1 r i j
        by_cases q : r < 15
        · rw [if_pos q, y5.2.1 r i j q, xu_o _ _ _ _ _ (by omega)]
          rfl
        · rw [if_neg q]
      · funext r i j
        show (if r < 15 then σ2.2 r i j else τ'.2 r i j) = τ'.2 r i j
        by_cases q : r < 15
        · rw [if_pos q, y5.1]
          show σ2.2 r i j = (if r = 31 ∧ j = 0 ∧ i = 0 then x2.toInt64 else σ2.2 r i j)
          rw [if_neg (by omega)]
        · rw [if_neg q]
    rw [eT] at y3
    refine ⟨?_, y5.2.2, fun _ => ?_⟩
    · clear h
      have h := y3
      exact ⟨h.nv, h.nvr, h.dy, h.sh, h.dyr, h.shr, h.we, h.wer, h.le, h.st, h.str, h.ne, h.ner, h.co, h.cor, h.coz, h.kd, h.kdr, h.ba, h.bar, h.fr, h.frr, h.re, h.rer, h.pl, h.plr, h.se, h.ser, h.en, h.enz, h.enr, h.bt, h.btz, h.ck, h.ckz, h.gr, h.mo, h.rw, ⟨h.rwr.1, by have := h.rwr.2; show (τ'.1 15 0 18).toInt ≤ _; omega⟩, h.to⟩
    · show τ'.2 31 0 0 = x2.toInt64
      rw [y5.1]
      show (if 31 = 31 ∧ 0 = 0 ∧ 0 = 0 then x2.toInt64 else σ2.2 31 0 0) = x2.toInt64
      rw [if_pos ⟨rfl, rfl, rfl⟩]
  · have e1 : S_LW_replace σ v = (1, σ) := by
      simp only [S_LW_replace, S_LC_replace, kv_n h hv, ex_aa, xbp_l, xbp_r, xca_l, xca_r, i1n0, if_true, if_false, ite_self]
      try rfl
    have e2 : S_MO_replace σ v = (0, xuI σ 15 0 0 1) := by
      simp only [S_MO_replace, iv_n (σ := σ) h.nvr hv, thr_1, xbp_l, xbp_r, xca_l, xca_r, i1n0, if_true, if_false, ite_self]
      try rfl
    rw [e1]
    show Rel (t + 1) (S_MO_replace σ v).2 ∧ S_MO_thrown (S_MO_replace σ v).2 = 1 ∧ ((1 : Int32) = 0 → _)
    rw [e2]
    exact ⟨h.thr 1, rfl, fun q => absurd q (by decide)⟩
