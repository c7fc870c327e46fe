theorem xu_comm (σ : XS) {r i j r2 i2 j2 : Nat} (v v2 : Int32) (h : ¬ r = r2) : xuI (xuI σ r i j v) r2 i2 j2 v2 = xuI (xuI σ r2 i2 j2 v2) r i j v := by
  refine Prod.ext ?_ rfl
  funext r' i' j'
  show (if r' = r2 ∧ j' = j2 ∧ i' = i2 then v2 else if r' = r ∧ j' = j ∧ i' = i then v else σ.1 r' i' j') = (if r' = r ∧ j' = j ∧ i' = i then v else if r' = r2 ∧ j' = j2 ∧ i' = i2 then v2 else σ.1 r' i' j')
  repeat' split
  all_goals first | rfl | (exfalso; omega)
theorem cell_nI (σ : XS) (b c : Nat) : S_LC_cellOf σ (nI b) (nI c) = nI (30 * b + c) := by
  show nI b * nI 30 + nI c = _
  rw [pk_mul, nI_add]
  congr 1
  omega
def ldc (σ : XS) (a j : Nat) (n w : Int32) : XS := xuL (xuL (xuI σ 12 a j (σ.1 12 a j + n)) 9 a 11 (σ.2 9 a 11 + w.toInt64 * n.toInt64)) 9 a 12 (σ.2 9 a 12 + w.toInt64 * n.toInt64 * (σ.1 10 a (j / 30)).toInt64)
theorem ve_ld (σ : XS) {a j : Nat} (n w : Int32) (hj : j < 240) : (S_VE_load σ a (nI j) n w).2 = ldc σ a j n w := by
  unfold S_VE_load ldc
  rw [ix_1 (by omega), ix_div hj]
  rfl
theorem ldc_v (σ : XS) (a j : Nat) (n w : Int32) : (ldc σ a j n w).1 12 a j = σ.1 12 a j + n := xu_s _ _ _ _ _
theorem ldc_r (σ : XS) {a j r : Nat} (n w : Int32) (h : ¬ r = 12) {i k : Nat} : (ldc σ a j n w).1 r i k = σ.1 r i k := xu_o _ _ _ _ _ h
theorem l_n (x : Int32) (h : -99 ≤ x.toInt) : (-x).toInt = -x.toInt := by
  rw [Int32.toInt_neg, Int.bmod_eq_of_le (by have := Int32.toInt_lt x; omega) (by omega)]
set_option maxHeartbeats 4000000 in
theorem Rel.load {t : Nat} {σ : XS} (h : Rel t σ) {a j : Nat} {n w : Int32} (ha : a < 16) (hav : (a : Int) < (σ.1 15 0 6).toInt) (hj : j < 240) (hw : w = σ.1 16 0 (j % 30)) (hn : -99 ≤ n.toInt ∧ n.toInt ≤ 99) (hx : 0 ≤ (σ.1 28 0 (240 * a + j)).toInt + n.toInt ∧ (σ.1 28 0 (240 * a + j)).toInt + n.toInt ≤ 99) : Rel t (xuI (ldc σ a j n w) 28 0 (240 * a + j) (σ.1 28 0 (240 * a + j) + n)) := by
  have hbd := h.bds
  have hwe := h.wer (j % 30) (by omega)
  have hpl := h.plr (8 * a + j / 30) (by omega)
  have hX : (σ.1 28 0 (240 * a + j) + n).toInt = (σ.1 28 0 (240 * a + j)).toInt + n.toInt := i_add (by omega) (by omega)
  have b1 := mul_bd2 hwe.1 hwe.2 (y := n.toInt) (Y := 99) (by omega) hn.2
  have e1 : (w.toInt64 * n.toInt64).toInt = (σ.1 16 0 (j % 30)).toInt * n.toInt := by
    rw [hw, l_mul (by rw [l_of, l_of]; omega) (by rw [l_of, l_of]; omega), l_of, l_of]
  have b2 : -495000000000 ≤ (σ.1 16 0 (j % 30)).toInt * n.toInt * (σ.1 24 0 (8 * a + j / 30)).toInt ∧ (σ.1 16 0 (j % 30)).toInt * n.toInt * (σ.1 24 0 (8 * a + j / 30)).toInt ≤ 495000000000 := by
    rcases Int.le_total 0 ((σ.1 16 0 (j % 30)).toInt * n.toInt) with q | q
    · have := mul_bd2 q (X := 49500000) (by omega) (y := (σ.1 24 0 (8 * a + j / 30)).toInt) (Y := 10000) (by omega) hpl.2
      omega
    · have := mul_bd2 (x := -((σ.1 16 0 (j % 30)).toInt * n.toInt)) (X := 49500000) (by omega) (by omega) (y := (σ.1 24 0 (8 * a + j / 30)).toInt) (Y := 10000) (by omega) hpl.2
      rw [Int.neg_mul] at this
      omega
  have e2 : (w.toInt64 * n.toInt64 * (σ.1 10 a (j / 30)).toInt64).toInt = (σ.1 16 0 (j % 30)).toInt * n.toInt * (σ.1 24 0 (8 * a + j / 30)).toInt := by
    rw [h.pl a ha _ (by omega), l_mul (by rw [e1, l_of]; omega) (by rw [e1, l_of]; omega), e1, l_of]
  have s1 := sw_bd hbd ha (n := 240) (by omega)
  have s2 := sm_bd hbd ha (n := 240) (by omega)
  have g1 := gw_u (n := 0) hj ha hX
  have g2 := gm_u (n := 0) hj ha hX
  refine ⟨h.nv, h.nvr, h.dy, h.sh, h.dyr, h.shr, h.we, h.wer, h.le, h.st, h.str, h.ne, h.ner, ?co, ?cor, ?coz, h.kd, h.kdr, h.ba, h.bar, h.fr, h.frr, h.re, h.rer, h.pl, h.plr, h.se, h.ser, h.en, h.enz, h.enr, h.bt, h.btz, h.ck, h.ckz, ?gr, ?mo, h.rw, h.rwr, h.to⟩
  case co =>
    intro v hv k hk
    by_cases q : v = a ∧ k = j
    · obtain ⟨rfl, rfl⟩ := q
      rw [xu_s, xu_o _ _ _ _ _ (by decide), ldc_v, h.co v hv k hk]
    · have q2 : ¬ (240 * v + k = 240 * a + j) := by omega
      have q3 : ¬ (k = j ∧ v = a) := fun z => q ⟨z.2, z.1⟩
      have r1 : (ldc σ a j n w).1 28 0 (240 * v + k) = σ.1 28 0 (240 * v + k) := ldc_r _ _ _ (by decide)
      rw [xu_j _ _ _ _ _ q2, r1, xu_o _ _ _ _ _ (by decide)]
      refine Eq.trans ?_ (h.co v hv k hk)
      show (if 12 = 12 ∧ k = j ∧ v = a then σ.1 12 a j + n else σ.1 12 v k) = _
      rw [if_neg (fun z => q3 z.2)]
  case cor =>
    intro k hk
    by_cases q : k = 240 * a + j
    · rw [q, xu_s, hX]
      exact hx
    · rw [xu_j _ _ _ _ _ q]
      exact h.cor k hk
  case coz =>
    intro k hk hl
    have hl : 240 * (σ.1 15 0 6).toInt ≤ k := hl
    rw [xu_j _ _ _ _ _ (by omega)]
    exact h.coz k hk hl
  case gr =>
    intro v hv
    by_cases q : v = a
    · subst q
      refine Eq.trans ?_ g1.symm
      show ((ldc σ v j n w).2 9 v 11).toInt = _
      have e5 : (ldc σ v j n w).2 9 v 11 = σ.2 9 v 11 + w.toInt64 * n.toInt64 := by simp [ldc, xuL, xuI]
      rw [e5, l_add (by rw [h.gr v hv, e1]; omega) (by rw [h.gr v hv, e1]; omega), h.gr v hv, e1]
    · refine Eq.trans ?_ (gw_v (σ := σ) hv q hj).symm
      refine Eq.trans ?_ (h.gr v hv)
      have e5 : (ldc σ a j n w).2 9 v 11 = σ.2 9 v 11 := by simp [ldc, xuL, xuI, q]
      show ((ldc σ a j n w).2 9 v 11).toInt = _
      rw [e5]
  case mo =>
    intro v hv
    by_cases q : v = a
    · subst q
      refine Eq.trans ?_ g2.symm
      show ((ldc σ v j n w).2 9 v 12).toInt = _
      have e5 : (ldc σ v j n w).2 9 v 12 = σ.2 9 v 12 + w.toInt64 * n.toInt64 * (σ.1 10 v (j / 30)).toInt64 := by simp [ldc, xuL, xuI]
      rw [e5, l_add (by rw [h.mo v hv, e2]; omega) (by rw [h.mo v hv, e2]; omega), h.mo v hv, e2]
    · refine Eq.trans ?_ (gm_v (σ := σ) hv q hj).symm
      refine Eq.trans ?_ (h.mo v hv)
      have e5 : (ldc σ a j n w).2 9 v 12 = σ.2 9 v 12 := by simp [ldc, xuL, xuI, q]
      show ((ldc σ a j n w).2 9 v 12).toInt = _
      rw [e5]
theorem rs_p {t : Nat} {σ : XS} (h : Rel t σ) {a j : Nat} {n : Int32} (ha : a < 16) (hj : j < 240) (c : n ≤ σ.1 28 0 (240 * a + j)) : S_LC_requireSoMany σ a (nI j) n = .inl () := by
  unfold S_LC_requireSoMany
  rw [ix_1 (by omega), h.co a ha j hj, if_pos c]
theorem rs_n {t : Nat} {σ : XS} (h : Rel t σ) {a j : Nat} {n : Int32} (ha : a < 16) (hj : j < 240) (c : ¬ n ≤ σ.1 28 0 (240 * a + j)) : S_LC_requireSoMany σ a (nI j) n = .inr ISE := by
  unfold S_LC_requireSoMany
  rw [ix_1 (by omega), h.co a ha j hj, if_neg c]
  rfl
theorem ro_p {t : Nat} {σ : XS} (h : Rel t σ) {a j : Nat} {n : Int32} (ha : a < 16) (hj : j < 240) (c : σ.1 28 0 (240 * a + j) + n ≤ 99) : S_LC_requireRoom σ a (nI j) n = .inl () := by
  unfold S_LC_requireRoom
  rw [ix_1 (by omega), h.co a ha j hj, if_pos c]
theorem ro_n {t : Nat} {σ : XS} (h : Rel t σ) {a j : Nat} {n : Int32} (ha : a < 16) (hj : j < 240) (c : ¬ σ.1 28 0 (240 * a + j) + n ≤ 99) : S_LC_requireRoom σ a (nI j) n = .inr UOE := by
  unfold S_LC_requireRoom
  rw [ix_1 (by omega), h.co a ha j hj, if_neg c]
  rfl
theorem rb_p {t : Nat} {σ : XS} (h : Rel t σ) {a j : Nat} {n : Int32} (ha : a < 16) (hav : (a : Int) < (σ.1 15 0 6).toInt) (hj : j < 240) (hn : 1 ≤ n.toInt ∧ n.toInt ≤ 99) (c : ¬ TM σ a j n.toInt) : S_LC_requireBearable σ a (nI j) n = .inl () := by
  unfold S_LC_requireBearable
  rw [ix_rem hj, (be_all h ha hav hj (h.we _ (by omega)) hn).2 c, if_neg i1n0]
theorem rb_n {t : Nat} {σ : XS} (h : Rel t σ) {a j : Nat} {n : Int32} (ha : a < 16) (hav : (a : Int) < (σ.1 15 0 6).toInt) (hj : j < 240) (hn : 1 ≤ n.toInt ∧ n.toInt ≤ 99) (c : TM σ a j n.toInt) : S_LC_requireBearable σ a (nI j) n = .inr ISE := by
  unfold S_LC_requireBearable
  rw [ix_rem hj, (be_all h ha hav hj (h.we _ (by omega)) hn).1 c, if_pos rfl]
  rfl
theorem inb_n {n : Int32} (h : inb n 1 99) : 1 ≤ n.toInt ∧ n.toInt ≤ 99 := by
  have := inb_iff.mp h
  have n1 : (1 : Int32).toInt = 1 := rfl
  have n9 : (99 : Int32).toInt = 99 := rfl
  omega
set_option maxHeartbeats 4000000 in
theorem r_use {t : Nat} {σ : XS} (h : Rel t σ) (ht : t < 512) (v cup it n : Int32) : Rel (t + 1) (S_MO_use (S_LW_use σ v cup it n).2 v cup it n).2 ∧ S_MO_thrown (S_MO_use (S_LW_use σ v cup it n).2 v cup it n).2 = (S_LW_use σ v cup it n).1 ∧ ((S_LW_use σ v cup it n).1 = 0 → (S_MO_use (S_LW_use σ v cup it n).2 v cup it n).2.2 31 0 0 = ((S_MO_use (S_LW_use σ v cup it n).2 v cup it n).1).toInt64) := by
  by_cases hv : isv σ v
  · obtain ⟨a, ha, hav, rfl⟩ := isv_of h hv
    by_cases hc : inb cup 0 7
    · obtain ⟨b, hb, rfl⟩ := inb_of (N := 7) rfl hc
      by_cases hi : inb it 0 29
      · obtain ⟨c, hc0, rfl⟩ := inb_of (N := 29) rfl hi
        by_cases h1 : inb n 1 99
        · by_cases hs : n ≤ σ.1 28 0 (240 * a + (30 * b + c))
          · have e1 : S_LW_use σ (nI a) (nI b) (nI c) n = (0, (xuL (ldc σ a (30 * b + c) (-n) (σ.1 1 0 c)) 31 0 0 (σ.1 12 a (30 * b + c) + -n).toInt64)) := by
              simp only [ix_1 (show a < 2 ^ 31 by omega), ix_1 (show b < 2 ^ 31 by omega), ix_1 (show c < 2 ^ 31 by omega), cell_nI σ b c, ix_1 (show 30 * b + c < 2 ^ 31 by omega), ix_c3 ha hb hc0, S_LW_use, S_LC_use, kv_p h hv, rc_p _ hc, ri_p _ hi, rr_p _ h1, rs_p h ha (show 30 * b + c < 240 by omega) hs, xbp_l, xbp_r, xca_l, xca_r, i1n0, if_true, if_false, ite_self, xu_s, xu_o, xu_j, xu_l, Nat.reduceEqDiff, not_false_eq_true, ve_ld _ _ _ (show 30 * b + c < 240 by omega), ldc_v]
              try rfl
            have e2 : S_MO_use (xuL (ldc σ a (30 * b + c) (-n) (σ.1 1 0 c)) 31 0 0 (σ.1 12 a (30 * b + c) + -n).toInt64) (nI a) (nI b) (nI c) n = (σ.1 28 0 (240 * a + (30 * b + c)) - n, (xuI (xuI (xuL (ldc σ a (30 * b + c) (-n) (σ.1 1 0 c)) 31 0 0 (σ.1 12 a (30 * b + c) + -n).toInt64) 15 0 0 0) 28 0 (240 * a + (30 * b + c)) (σ.1 28 0 (240 * a + (30 * b + c)) - n))) := by
              simp only [ix_1 (show a < 2 ^ 31 by omega), ix_1 (show b < 2 ^ 31 by omega), ix_1 (show c < 2 ^ 31 by omega), cell_nI σ b c, ix_1 (show 30 * b + c < 2 ^ 31 by omega), ix_c3 ha hb hc0, S_MO_use, S_MO_isThing, iv_p (σ := (xuL (ldc σ a (30 * b + c) (-n) (σ.1 1 0 c)) 31 0 0 (σ.1 12 a (30 * b + c) + -n).toInt64)) h.nvr hv, ic_p _ hc, ii_p _ hi, in_p _ h1, hs, thr_0, xbp_l, xbp_r, xca_l, xca_r, i1n0, if_true, if_false, ite_self, xu_s, xu_o, xu_j, xu_l, Nat.reduceEqDiff, not_false_eq_true, ldc_r]
              try rfl
            rw [e1]
            show Rel (t + 1) (S_MO_use (xuL (ldc σ a (30 * b + c) (-n) (σ.1 1 0 c)) 31 0 0 (σ.1 12 a (30 * b + c) + -n).toInt64) (nI a) (nI b) (nI c) n).2 ∧ S_MO_thrown (S_MO_use (xuL (ldc σ a (30 * b + c) (-n) (σ.1 1 0 c)) 31 0 0 (σ.1 12 a (30 * b + c) + -n).toInt64) (nI a) (nI b) (nI c) n).2 = 0 ∧ ((0 : Int32) = 0 → _)
            rw [e2]
            have hn := inb_n h1
            have hx := h.cor (240 * a + (30 * b + c)) (by omega)
            rw [Int32.le_iff_toInt_le] at hs
            have e9 : (-n).toInt = -n.toInt := l_n n (by omega)
            refine ⟨?_, rfl, fun _ => ?_⟩
            · rw [xu_comm _ _ _ (by decide), Int32.sub_eq_add_neg]
              exact ((h.load (a := a) (j := (30 * b + c)) (n := -n) (w := σ.1 1 0 c) ha hav (by omega) (by rw [h.we c hc0, show (30 * b + c) % 30 = c by omega]) (by omega) (by omega)).out _).thr 0
            · show (σ.1 12 a (30 * b + c) + -n).toInt64 = (σ.1 28 0 (240 * a + (30 * b + c)) - n).toInt64
              rw [h.co a ha _ (by omega), Int32.sub_eq_add_neg]
          · have e1 : S_LW_use σ (nI a) (nI b) (nI c) n = (3, σ) := by
              simp only [ix_1 (show a < 2 ^ 31 by omega), ix_1 (show b < 2 ^ 31 by omega), ix_1 (show c < 2 ^ 31 by omega), cell_nI σ b c, ix_1 (show 30 * b + c < 2 ^ 31 by omega), ix_c3 ha hb hc0, S_LW_use, S_LC_use, kv_p h hv, rc_p _ hc, ri_p _ hi, rr_p _ h1, rs_n h ha (show 30 * b + c < 240 by omega) hs, ex_ca, ex_cb, ex_cc, xbp_l, xbp_r, xca_l, xca_r, i1n0, if_true, if_false, ite_self]
              try rfl
            have e2 : S_MO_use σ (nI a) (nI b) (nI c) n = (0, xuI σ 15 0 0 3) := by
              simp only [ix_1 (show a < 2 ^ 31 by omega), ix_1 (show b < 2 ^ 31 by omega), ix_1 (show c < 2 ^ 31 by omega), cell_nI σ b c, ix_1 (show 30 * b + c < 2 ^ 31 by omega), ix_c3 ha hb hc0, S_MO_use, S_MO_isThing, iv_p (σ := σ) h.nvr hv, ic_p _ hc, ii_p _ hi, in_p _ h1, hs, thr_3, xbp_l, xbp_r, xca_l, xca_r, i1n0, if_true, if_false, ite_self]
              try rfl
            rw [e1]
            show Rel (t + 1) (S_MO_use σ (nI a) (nI b) (nI c) n).2 ∧ S_MO_thrown (S_MO_use σ (nI a) (nI b) (nI c) n).2 = 3 ∧ ((3 : Int32) = 0 → _)
            rw [e2]
            exact ⟨h.thr 3, rfl, fun q => absurd q (by decide)⟩
        · have e1 : S_LW_use σ (nI a) (nI b) (nI c) n = (2, σ) := by
            simp only [ix_1 (show a < 2 ^ 31 by omega), ix_1 (show b < 2 ^ 31 by omega), ix_1 (show c < 2 ^ 31 by omega), cell_nI σ b c, ix_1 (show 30 * b + c < 2 ^ 31 by omega), ix_c3 ha hb hc0, S_LW_use, S_LC_use, kv_p h hv, rc_p _ hc, ri_p _ hi, rr_n _ h1, ex_ba, ex_bb, xbp_l, xbp_r, xca_l, xca_r, i1n0, if_true, if_false, ite_self]
            try rfl
          have e2 : S_MO_use σ (nI a) (nI b) (nI c) n = (0, xuI σ 15 0 0 2) := by
            simp only [ix_1 (show a < 2 ^ 31 by omega), ix_1 (show b < 2 ^ 31 by omega), ix_1 (show c < 2 ^ 31 by omega), cell_nI σ b c, ix_1 (show 30 * b + c < 2 ^ 31 by omega), ix_c3 ha hb hc0, S_MO_use, S_MO_isThing, iv_p (σ := σ) h.nvr hv, ic_p _ hc, ii_p _ hi, in_n _ h1, thr_2, xbp_l, xbp_r, xca_l, xca_r, i1n0, if_true, if_false, ite_self]
            try rfl
          rw [e1]
          show Rel (t + 1) (S_MO_use σ (nI a) (nI b) (nI c) n).2 ∧ S_MO_thrown (S_MO_use σ (nI a) (nI b) (nI c) n).2 = 2 ∧ ((2 : Int32) = 0 → _)
          rw [e2]
          exact ⟨h.thr 2, rfl, fun q => absurd q (by decide)⟩
      · have e1 : S_LW_use σ (nI a) (nI b) it n = (1, σ) := by
          simp only [ix_1 (show a < 2 ^ 31 by omega), ix_1 (show b < 2 ^ 31 by omega), S_LW_use, S_LC_use, kv_p h hv, rc_p _ hc, ri_n _ hi, ex_aa, xbp_l, xbp_r, xca_l, xca_r, i1n0, if_true, if_false, ite_self]
          try rfl
        have e2 : S_MO_use σ (nI a) (nI b) it n = (0, xuI σ 15 0 0 1) := by
          simp only [ix_1 (show a < 2 ^ 31 by omega), ix_1 (show b < 2 ^ 31 by omega), S_MO_use, S_MO_isThing, iv_p (σ := σ) h.nvr hv, ic_p _ hc, ii_n _ hi, thr_1, xbp_l, xbp_r, xca_l, xca_r, i1n0, if_true, if_false, ite_self]
          try rfl
        rw [e1]
        show Rel (t + 1) (S_MO_use σ (nI a) (nI b) it n).2 ∧ S_MO_thrown (S_MO_use σ (nI a) (nI b) it n).2 = 1 ∧ ((1 : Int32) = 0 → _)
        rw [e2]
        exact ⟨h.thr 1, rfl, fun q => absurd q (by decide)⟩
    · have e1 : S_LW_use σ (nI a) cup it n = (1, σ) := by
        simp only [ix_1 (show a < 2 ^ 31 by omega), S_LW_use, S_LC_use, kv_p h hv, rc_n _ hc, ex_aa, xbp_l, xbp_r, xca_l, xca_r, i1n0, if_true, if_false, ite_self]
        try rfl
      have e2 : S_MO_use σ (nI a) cup it n = (0, xuI σ 15 0 0 1) := by
        simp only [ix_1 (show a < 2 ^ 31 by omega), S_MO_use, S_MO_isThing, iv_p (σ := σ) h.nvr hv, ic_n _ hc, thr_1, xbp_l, xbp_r, xca_l, xca_r, i1n0, if_true, if_false, ite_self]
        try rfl
      rw [e1]
      show Rel (t + 1) (S_MO_use σ (nI a) cup it n).2 ∧ S_MO_thrown (S_MO_use σ (nI a) cup it n).2 = 1 ∧ ((1 : Int32) = 0 → _)
      rw [e2]
      exact ⟨h.thr 1, rfl, fun q => absurd q (by decide)⟩
  · have e1 : S_LW_use σ v cup it n = (1, σ) := by
      simp only [S_LW_use, S_LC_use, kv_n h hv, ex_aa, xbp_l, xbp_r, xca_l, xca_r, i1n0, if_true, if_false, ite_self]
      try rfl
    have e2 : S_MO_use σ v cup it n = (0, xuI σ 15 0 0 1) := by
      simp only [S_MO_use, S_MO_isThing, iv_n (σ := σ) h.nvr hv, thr_1, xbp_l, xbp_r, xca_l, xca_r, i1n0, if_true, if_false, ite_self]
      try rfl
    rw [e1]
    show Rel (t + 1) (S_MO_use σ v cup it n).2 ∧ S_MO_thrown (S_MO_use σ v cup it n).2 = 1 ∧ ((1 : Int32) = 0 → _)
    rw [e2]
    exact ⟨h.thr 1, rfl, fun q => absurd q (by decide)⟩

set_option maxHeartbeats 4000000 in
theorem r_put {t : Nat} {σ : XS} (h : Rel t σ) (ht : t < 512) (v cup it n : Int32) : Rel (t + 1) (S_MO_put (S_LW_put σ v cup it n).2 v cup it n).2 ∧ S_MO_thrown (S_MO_put (S_LW_put σ v cup it n).2 v cup it n).2 = (S_LW_put σ v cup it n).1 ∧ ((S_LW_put σ v cup it n).1 = 0 → (S_MO_put (S_LW_put σ v cup it n).2 v cup it n).2.2 31 0 0 = ((S_MO_put (S_LW_put σ v cup it n).2 v cup it n).1).toInt64) := by
  by_cases hv : isv σ v
  · obtain ⟨a, ha, hav, rfl⟩ := isv_of h hv
    by_cases hc : inb cup 0 7
    · obtain ⟨b, hb, rfl⟩ := inb_of (N := 7) rfl hc
      by_cases hi : inb it 0 29
      · obtain ⟨c, hc0, rfl⟩ := inb_of (N := 29) rfl hi
        by_cases h1 : inb n 1 99
        · have hn := inb_n h1
          by_cases hs : ¬ TM σ a (30 * b + c) n.toInt
          · by_cases hr : σ.1 28 0 (240 * a + (30 * b + c)) + n ≤ 99
            · have e1 : S_LW_put σ (nI a) (nI b) (nI c) n = (0, (xuL (ldc σ a (30 * b + c) n (σ.1 1 0 c)) 31 0 0 (σ.1 12 a (30 * b + c) + n).toInt64)) := by
                simp only [ix_1 (show a < 2 ^ 31 by omega), ix_1 (show b < 2 ^ 31 by omega), ix_1 (show c < 2 ^ 31 by omega), cell_nI σ b c, ix_1 (show 30 * b + c < 2 ^ 31 by omega), ix_c3 ha hb hc0, S_LW_put, S_LC_put, kv_p h hv, rc_p _ hc, ri_p _ hi, rr_p _ h1, rb_p h ha hav (show 30 * b + c < 240 by omega) hn hs, ro_p h ha (show 30 * b + c < 240 by omega) hr, xbp_l, xbp_r, xca_l, xca_r, i1n0, if_true, if_false, ite_self, xu_s, xu_o, xu_j, xu_l, Nat.reduceEqDiff, not_false_eq_true, ve_ld _ _ _ (show 30 * b + c < 240 by omega), ldc_v]
                try rfl
              have e2 : S_MO_put (xuL (ldc σ a (30 * b + c) n (σ.1 1 0 c)) 31 0 0 (σ.1 12 a (30 * b + c) + n).toInt64) (nI a) (nI b) (nI c) n = (σ.1 28 0 (240 * a + (30 * b + c)) + n, (xuI (xuI (xuL (ldc σ a (30 * b + c) n (σ.1 1 0 c)) 31 0 0 (σ.1 12 a (30 * b + c) + n).toInt64) 15 0 0 0) 28 0 (240 * a + (30 * b + c)) (σ.1 28 0 (240 * a + (30 * b + c)) + n))) := by
                simp only [ix_1 (show a < 2 ^ 31 by omega), ix_1 (show b < 2 ^ 31 by omega), ix_1 (show c < 2 ^ 31 by omega), cell_nI σ b c, ix_1 (show 30 * b + c < 2 ^ 31 by omega), ix_c3 ha hb hc0, S_MO_put, S_MO_isThing, iv_p (σ := (xuL (ldc σ a (30 * b + c) n (σ.1 1 0 c)) 31 0 0 (σ.1 12 a (30 * b + c) + n).toInt64)) h.nvr hv, ic_p _ hc, ii_p _ hi, in_p _ h1, (tm_all (σ := (xuL (ldc σ a (30 * b + c) n (σ.1 1 0 c)) 31 0 0 (σ.1 12 a (30 * b + c) + n).toInt64)) (h.mb ha hav) ha hb hc0 hn).2 hs, hr, thr_0, xbp_l, xbp_r, xca_l, xca_r, i1n0, if_true, if_false, ite_self, xu_s, xu_o, xu_j, xu_l, Nat.reduceEqDiff, not_false_eq_true, ldc_r]
                try rfl
              rw [e1]
              show Rel (t + 1) (S_MO_put (xuL (ldc σ a (30 * b + c) n (σ.1 1 0 c)) 31 0 0 (σ.1 12 a (30 * b + c) + n).toInt64) (nI a) (nI b) (nI c) n).2 ∧ S_MO_thrown (S_MO_put (xuL (ldc σ a (30 * b + c) n (σ.1 1 0 c)) 31 0 0 (σ.1 12 a (30 * b + c) + n).toInt64) (nI a) (nI b) (nI c) n).2 = 0 ∧ ((0 : Int32) = 0 → _)
              rw [e2]
              have hx := h.cor (240 * a + (30 * b + c)) (by omega)
              have e8 : (σ.1 28 0 (240 * a + (30 * b + c)) + n).toInt = (σ.1 28 0 (240 * a + (30 * b + c))).toInt + n.toInt := i_add (by omega) (by omega)
              have n9 : (99 : Int32).toInt = 99 := rfl
              rw [Int32.le_iff_toInt_le] at hr
              refine ⟨?_, rfl, fun _ => ?_⟩
              · rw [xu_comm _ _ _ (by decide)]
                exact ((h.load (a := a) (j := (30 * b + c)) (n := n) (w := σ.1 1 0 c) ha hav (by omega) (by rw [h.we c hc0, show (30 * b + c) % 30 = c by omega]) (by omega) (by omega)).out _).thr 0
              · show (σ.1 12 a (30 * b + c) + n).toInt64 = (σ.1 28 0 (240 * a + (30 * b + c)) + n).toInt64
                rw [h.co a ha _ (by omega)]
            · have e1 : S_LW_put σ (nI a) (nI b) (nI c) n = (4, σ) := by
                simp only [ix_1 (show a < 2 ^ 31 by omega), ix_1 (show b < 2 ^ 31 by omega), ix_1 (show c < 2 ^ 31 by omega), cell_nI σ b c, ix_1 (show 30 * b + c < 2 ^ 31 by omega), ix_c3 ha hb hc0, S_LW_put, S_LC_put, kv_p h hv, rc_p _ hc, ri_p _ hi, rr_p _ h1, rb_p h ha hav (show 30 * b + c < 240 by omega) hn hs, ro_n h ha (show 30 * b + c < 240 by omega) hr, ex_da, ex_db, ex_dc, xbp_l, xbp_r, xca_l, xca_r, i1n0, if_true, if_false, ite_self]
                try rfl
              have e2 : S_MO_put σ (nI a) (nI b) (nI c) n = (0, xuI σ 15 0 0 4) := by
                simp only [ix_1 (show a < 2 ^ 31 by omega), ix_1 (show b < 2 ^ 31 by omega), ix_1 (show c < 2 ^ 31 by omega), cell_nI σ b c, ix_1 (show 30 * b + c < 2 ^ 31 by omega), ix_c3 ha hb hc0, S_MO_put, S_MO_isThing, iv_p (σ := σ) h.nvr hv, ic_p _ hc, ii_p _ hi, in_p _ h1, (tm_all (σ := σ) (h.mb ha hav) ha hb hc0 hn).2 hs, hr, thr_4, xbp_l, xbp_r, xca_l, xca_r, i1n0, if_true, if_false, ite_self]
                try rfl
              rw [e1]
              show Rel (t + 1) (S_MO_put σ (nI a) (nI b) (nI c) n).2 ∧ S_MO_thrown (S_MO_put σ (nI a) (nI b) (nI c) n).2 = 4 ∧ ((4 : Int32) = 0 → _)
              rw [e2]
              exact ⟨h.thr 4, rfl, fun q => absurd q (by decide)⟩
          · have e1 : S_LW_put σ (nI a) (nI b) (nI c) n = (3, σ) := by
              simp only [ix_1 (show a < 2 ^ 31 by omega), ix_1 (show b < 2 ^ 31 by omega), ix_1 (show c < 2 ^ 31 by omega), cell_nI σ b c, ix_1 (show 30 * b + c < 2 ^ 31 by omega), ix_c3 ha hb hc0, S_LW_put, S_LC_put, kv_p h hv, rc_p _ hc, ri_p _ hi, rr_p _ h1, rb_n h ha hav (show 30 * b + c < 240 by omega) hn (Classical.not_not.mp hs), ex_ca, ex_cb, ex_cc, xbp_l, xbp_r, xca_l, xca_r, i1n0, if_true, if_false, ite_self]
              try rfl
            have e2 : S_MO_put σ (nI a) (nI b) (nI c) n = (0, xuI σ 15 0 0 3) := by
              simp only [ix_1 (show a < 2 ^ 31 by omega), ix_1 (show b < 2 ^ 31 by omega), ix_1 (show c < 2 ^ 31 by omega), cell_nI σ b c, ix_1 (show 30 * b + c < 2 ^ 31 by omega), ix_c3 ha hb hc0, S_MO_put, S_MO_isThing, iv_p (σ := σ) h.nvr hv, ic_p _ hc, ii_p _ hi, in_p _ h1, (tm_all (σ := σ) (h.mb ha hav) ha hb hc0 hn).1 (Classical.not_not.mp hs), thr_3, xbp_l, xbp_r, xca_l, xca_r, i1n0, if_true, if_false, ite_self]
              try rfl
            rw [e1]
            show Rel (t + 1) (S_MO_put σ (nI a) (nI b) (nI c) n).2 ∧ S_MO_thrown (S_MO_put σ (nI a) (nI b) (nI c) n).2 = 3 ∧ ((3 : Int32) = 0 → _)
            rw [e2]
            exact ⟨h.thr 3, rfl, fun q => absurd q (by decide)⟩
        · have e1 : S_LW_put σ (nI a) (nI b) (nI c) n = (2, σ) := by
            simp only [ix_1 (show a < 2 ^ 31 by omega), ix_1 (show b < 2 ^ 31 by omega), ix_1 (show c < 2 ^ 31 by omega), cell_nI σ b c, ix_1 (show 30 * b + c < 2 ^ 31 by omega), ix_c3 ha hb hc0, S_LW_put, S_LC_put, kv_p h hv, rc_p _ hc, ri_p _ hi, rr_n _ h1, ex_ba, ex_bb, xbp_l, xbp_r, xca_l, xca_r, i1n0, if_true, if_false, ite_self]
            try rfl
          have e2 : S_MO_put σ (nI a) (nI b) (nI c) n = (0, xuI σ 15 0 0 2) := by
            simp only [ix_1 (show a < 2 ^ 31 by omega), ix_1 (show b < 2 ^ 31 by omega), ix_1 (show c < 2 ^ 31 by omega), cell_nI σ b c, ix_1 (show 30 * b + c < 2 ^ 31 by omega), ix_c3 ha hb hc0, S_MO_put, S_MO_isThing, iv_p (σ := σ) h.nvr hv, ic_p _ hc, ii_p _ hi, in_n _ h1, thr_2, xbp_l, xbp_r, xca_l, xca_r, i1n0, if_true, if_false, ite_self]
            try rfl
          rw [e1]
          show Rel (t + 1) (S_MO_put σ (nI a) (nI b) (nI c) n).2 ∧ S_MO_thrown (S_MO_put σ (nI a) (nI b) (nI c) n).2 = 2 ∧ ((2 : Int32) = 0 → _)
          rw [e2]
          exact ⟨h.thr 2, rfl, fun q => absurd q (by decide)⟩
      · have e1 : S_LW_put σ (nI a) (nI b) it n = (1, σ) := by
          simp only [ix_1 (show a < 2 ^ 31 by omega), ix_1 (show b < 2 ^ 31 by omega), S_LW_put, S_LC_put, kv_p h hv, rc_p _ hc, ri_n _ hi, ex_aa, xbp_l, xbp_r, xca_l, xca_r, i1n0, if_true, if_false, ite_self]
          try rfl
        have e2 : S_MO_put σ (nI a) (nI b) it n = (0, xuI σ 15 0 0 1) := by
          simp only [ix_1 (show a < 2 ^ 31 by omega), ix_1 (show b < 2 ^ 31 by omega), S_MO_put, S_MO_isThing, iv_p (σ := σ) h.nvr hv, ic_p _ hc, ii_n _ hi, thr_1, xbp_l, xbp_r, xca_l, xca_r, i1n0, if_true, if_false, ite_self]
          try rfl
        rw [e1]
        show Rel (t + 1) (S_MO_put σ (nI a) (nI b) it n).2 ∧ S_MO_thrown (S_MO_put σ (nI a) (nI b) it n).2 = 1 ∧ ((1 : Int32) = 0 → _)
        rw [e2]
        exact ⟨h.thr 1, rfl, fun q => absurd q (by decide)⟩
    · have e1 : S_LW_put σ (nI a) cup it n = (1, σ) := by
        simp only [ix_1 (show a < 2 ^ 31 by omega), S_LW_put, S_LC_put, kv_p h hv, rc_n _ hc, ex_aa, xbp_l, xbp_r, xca_l, xca_r, i1n0, if_true, if_false, ite_self]
        try rfl
      have e2 : S_MO_put σ (nI a) cup it n = (0, xuI σ 15 0 0 1) := by
        simp only [ix_1 (show a < 2 ^ 31 by omega), S_MO_put, S_MO_isThing, iv_p (σ := σ) h.nvr hv, ic_n _ hc, thr_1, xbp_l, xbp_r, xca_l, xca_r, i1n0, if_true, if_false, ite_self]
        try rfl
      rw [e1]
      show Rel (t + 1) (S_MO_put σ (nI a) cup it n).2 ∧ S_MO_thrown (S_MO_put σ (nI a) cup it n).2 = 1 ∧ ((1 : Int32) = 0 → _)
      rw [e2]
      exact ⟨h.thr 1, rfl, fun q => absurd q (by decide)⟩
  · have e1 : S_LW_put σ v cup it n = (1, σ) := by
      simp only [S_LW_put, S_LC_put, kv_n h hv, ex_aa, xbp_l, xbp_r, xca_l, xca_r, i1n0, if_true, if_false, ite_self]
      try rfl
    have e2 : S_MO_put σ v cup it n = (0, xuI σ 15 0 0 1) := by
      simp only [S_MO_put, S_MO_isThing, iv_n (σ := σ) h.nvr hv, thr_1, xbp_l, xbp_r, xca_l, xca_r, i1n0, if_true, if_false, ite_self]
      try rfl
    rw [e1]
    show Rel (t + 1) (S_MO_put σ v cup it n).2 ∧ S_MO_thrown (S_MO_put σ v cup it n).2 = 1 ∧ ((1 : Int32) = 0 → _)
    rw [e2]
    exact ⟨h.thr 1, rfl, fun q => absurd q (by decide)⟩
