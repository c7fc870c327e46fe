def RA (σ : XS) (m : Nat) (v it n : Int32) : XS := xuL (xuI (xuI (xuI σ 8 0 (3 * (m % 100)) v) 8 0 (3 * (m % 100) + 1) it) 8 0 (3 * (m % 100) + 2) n) 7 0 1 (lN (m + 1))
def TE (σ : XS) (m : Nat) (v it n : Int32) : XS := xuI (xuI (xuI (xuI σ 30 0 (3 * (m % 100)) v) 30 0 (3 * (m % 100) + 1) it) 30 0 (3 * (m % 100) + 2) n) 15 0 18 (nI (m + 1))
theorem RA_eq (σ : XS) {m : Nat} (hm : m < 2 ^ 30) (e : σ.2 7 0 1 = lN m) (v it n : Int32) : (S_RW_add σ v it n).2 = RA σ m v it n := by
  have i0 : ((lN m - lN m / 100 * 100).toInt32 * 3).toNatClampNeg = 3 * (m % 100) := by
    show ((lN m - lN m / lN 100 * lN 100).toInt32 * nI 3).toNatClampNeg = _
    rw [pk_lRem (by omega) (by decide) (by decide), lN_i, pk_mul, ix_1 (by omega)]
    omega
  have i1 : ((lN m - lN m / 100 * 100).toInt32 * 3 + 1).toNatClampNeg = 3 * (m % 100) + 1 := by
    show ((lN m - lN m / lN 100 * lN 100).toInt32 * nI 3 + nI 1).toNatClampNeg = _
    rw [pk_lRem (by omega) (by decide) (by decide), lN_i, pk_mul, nI_add, ix_1 (by omega)]
    omega
  have i2 : ((lN m - lN m / 100 * 100).toInt32 * 3 + 2).toNatClampNeg = 3 * (m % 100) + 2 := by
    show ((lN m - lN m / lN 100 * lN 100).toInt32 * nI 3 + nI 2).toNatClampNeg = _
    rw [pk_lRem (by omega) (by decide) (by decide), lN_i, pk_mul, nI_add, ix_1 (by omega)]
    omega
  unfold S_RW_add RA
  rw [e, i0, i1, i2]
  show xuL _ 7 0 1 (σ.2 7 0 1 + 1) = _
  rw [e, lN_1]
theorem TE_eq (σ : XS) {m : Nat} (hm : m < 2 ^ 30) (e : σ.1 15 0 18 = nI m) (v it n : Int32) : (S_MO_tell σ v it n).2 = TE σ m v it n := by
  have i0 : (3 * (nI m - nI m / 100 * 100)).toNatClampNeg = 3 * (m % 100) := by
    show (nI 3 * (nI m - nI m / nI 100 * nI 100)).toNatClampNeg = _
    rw [pk_rem (by omega) (by decide) (by decide), pk_mul, ix_1 (by omega)]
  have i1 : (3 * (nI m - nI m / 100 * 100) + 1).toNatClampNeg = 3 * (m % 100) + 1 := by
    show (nI 3 * (nI m - nI m / nI 100 * nI 100) + nI 1).toNatClampNeg = _
    rw [pk_rem (by omega) (by decide) (by decide), pk_mul, nI_add, ix_1 (by omega)]
  have i2 : (3 * (nI m - nI m / 100 * 100) + 2).toNatClampNeg = 3 * (m % 100) + 2 := by
    show (nI 3 * (nI m - nI m / nI 100 * nI 100) + nI 2).toNatClampNeg = _
    rw [pk_rem (by omega) (by decide) (by decide), pk_mul, nI_add, ix_1 (by omega)]
  unfold S_MO_tell TE
  rw [e, i0, i1, i2]
  show xuI _ 15 0 18 (σ.1 15 0 18 + 1) = _
  rw [e, nI_1]
theorem Rel.tell {t t' : Nat} {σ : XS} (h : Rel t σ) {m : Nat} (hm : m < 2 ^ 30) (e : σ.1 15 0 18 = nI m) (ht : m + 1 ≤ 2 * t') (v it n : Int32) : Rel t' (TE (RA σ m v it n) m v it n) := by
  refine ⟨h.nv, h.nvr, h.dy, h.sh, h.dyr, h.shr, h.we, h.wer, h.le, h.st, h.str, h.ne, h.ner, h.co, h.cor, h.coz, h.kd, h.kdr, h.ba, h.bar, h.fr, h.frr, h.re, h.rer, h.pl, h.plr, h.se, h.ser, h.en, h.enz, h.enr, h.bt, h.btz, h.ck, h.ckz, h.gr, h.mo, ?rw, ?rwr, ?to⟩
  case rw =>
    show (lN (m + 1)).toInt = (nI (m + 1)).toInt
    rw [pk_lT (by omega), nI_toInt (by omega)]
  case rwr =>
    show 0 ≤ (nI (m + 1)).toInt ∧ (nI (m + 1)).toInt ≤ 2 * (t' : Int)
    rw [nI_toInt (by omega)]
    omega
  case to =>
    intro j hj
    show (if 8 = 8 ∧ j = 3 * (m % 100) + 2 ∧ 0 = 0 then n else if 8 = 8 ∧ j = 3 * (m % 100) + 1 ∧ 0 = 0 then it else if 8 = 8 ∧ j = 3 * (m % 100) ∧ 0 = 0 then v else σ.1 8 0 j) = (if 30 = 30 ∧ j = 3 * (m % 100) + 2 ∧ 0 = 0 then n else if 30 = 30 ∧ j = 3 * (m % 100) + 1 ∧ 0 = 0 then it else if 30 = 30 ∧ j = 3 * (m % 100) ∧ 0 = 0 then v else σ.1 30 0 j)
    rw [h.to j hj]
    simp only [true_and, and_true]
theorem Rel.m {t : Nat} {σ : XS} (h : Rel t σ) (ht : t < 512) : ∃ m : Nat, m < 2 ^ 20 ∧ σ.1 15 0 18 = nI m ∧ σ.2 7 0 1 = lN m ∧ m ≤ 2 * t := by
  have h1 := h.rwr
  obtain ⟨m, hm, e⟩ := nI_of (x := σ.1 15 0 18) (by rw [Int32.lt_iff_toInt_lt]; have n0 : (0 : Int32).toInt = 0 := rfl; omega)
  have e2 : (σ.1 15 0 18).toInt = m := by rw [e, nI_toInt hm]
  refine ⟨m, by omega, e, l_i ?_, by omega⟩
  rw [h.rw, e2, pk_lT (by omega)]
theorem nI_inj {a b : Nat} (h : nI a = nI b) (ha : a < 16) (hb : b < 16) : a = b := by
  have q := congrArg Int32.toInt h
  rw [nI_toInt (by omega), nI_toInt (by omega)] at q
  omega
theorem RAr (σ : XS) {m r : Nat} (v it n : Int32) (h : ¬ r = 8) {i k : Nat} : (RA σ m v it n).1 r i k = σ.1 r i k := by
  show (xuI (xuI (xuI σ 8 0 (3 * (m % 100)) v) 8 0 (3 * (m % 100) + 1) it) 8 0 (3 * (m % 100) + 2) n).1 r i k = _
  rw [xu_o _ _ _ _ _ h, xu_o _ _ _ _ _ h, xu_o _ _ _ _ _ h]
set_option maxHeartbeats 4000000 in
theorem r_swap {t : Nat} {σ : XS} (h : Rel t σ) (ht : t < 512) (v u cup it n : Int32) : Rel (t + 1) (S_MO_swap (S_LW_swap σ v u cup it n).2 v u cup it n).2 ∧ S_MO_thrown (S_MO_swap (S_LW_swap σ v u cup it n).2 v u cup it n).2 = (S_LW_swap σ v u cup it n).1 := by
  by_cases hv : isv σ v
  · obtain ⟨a, ha, hav, rfl⟩ := isv_of h hv
    by_cases hu : isv σ u
    · obtain ⟨g, hg, hgv, rfl⟩ := isv_of h hu
      by_cases hne : a ≠ g
      · by_cases hc : inb cup 0 7
        · obtain ⟨b, hb, rfl⟩ := inb_of (N := 7) rfl hc
          by_cases hi : inb it 0 29
          · obtain ⟨c, hc0, rfl⟩ := inb_of (N := 29) rfl hi
            by_cases h1 : inb n 1 99
            · have hn := inb_n h1
              by_cases hs : n ≤ σ.1 28 0 (240 * a + (30 * b + c))
              · by_cases hb2 : ¬ TM σ g (30 * b + c) n.toInt
                · by_cases hr : σ.1 28 0 (240 * g + (30 * b + c)) + n ≤ 99
                  · obtain ⟨m, hm, em, el, hmt⟩ := h.m ht
                    have ra1 : ∀ v it x, (S_RW_add (ldc (ldc σ a (30 * b + c) (-n) (σ.1 1 0 c)) g (30 * b + c) n (σ.1 1 0 c)) v it x).2 = RA (ldc (ldc σ a (30 * b + c) (-n) (σ.1 1 0 c)) g (30 * b + c) n (σ.1 1 0 c)) m v it x := RA_eq (ldc (ldc σ a (30 * b + c) (-n) (σ.1 1 0 c)) g (30 * b + c) n (σ.1 1 0 c)) (by omega) el
                    have ra2 : ∀ v it x, (S_RW_add (RA (ldc (ldc σ a (30 * b + c) (-n) (σ.1 1 0 c)) g (30 * b + c) n (σ.1 1 0 c)) m (nI a) (nI c) (-n)) v it x).2 = RA (RA (ldc (ldc σ a (30 * b + c) (-n) (σ.1 1 0 c)) g (30 * b + c) n (σ.1 1 0 c)) m (nI a) (nI c) (-n)) (m + 1) v it x := RA_eq (RA (ldc (ldc σ a (30 * b + c) (-n) (σ.1 1 0 c)) g (30 * b + c) n (σ.1 1 0 c)) m (nI a) (nI c) (-n)) (by omega) rfl
                    have te1 : ∀ v it x, (S_MO_tell (xuI (xuI (xuI (RA (RA (ldc (ldc σ a (30 * b + c) (-n) (σ.1 1 0 c)) g (30 * b + c) n (σ.1 1 0 c)) m (nI a) (nI c) (-n)) (m + 1) (nI g) (nI c) n) 15 0 0 0) 28 0 (240 * a + (30 * b + c)) (σ.1 28 0 (240 * a + (30 * b + c)) - n)) 28 0 (240 * g + (30 * b + c)) (σ.1 28 0 (240 * g + (30 * b + c)) + n)) v it x).2 = TE (xuI (xuI (xuI (RA (RA (ldc (ldc σ a (30 * b + c) (-n) (σ.1 1 0 c)) g (30 * b + c) n (σ.1 1 0 c)) m (nI a) (nI c) (-n)) (m + 1) (nI g) (nI c) n) 15 0 0 0) 28 0 (240 * a + (30 * b + c)) (σ.1 28 0 (240 * a + (30 * b + c)) - n)) 28 0 (240 * g + (30 * b + c)) (σ.1 28 0 (240 * g + (30 * b + c)) + n)) m v it x := TE_eq (xuI (xuI (xuI (RA (RA (ldc (ldc σ a (30 * b + c) (-n) (σ.1 1 0 c)) g (30 * b + c) n (σ.1 1 0 c)) m (nI a) (nI c) (-n)) (m + 1) (nI g) (nI c) n) 15 0 0 0) 28 0 (240 * a + (30 * b + c)) (σ.1 28 0 (240 * a + (30 * b + c)) - n)) 28 0 (240 * g + (30 * b + c)) (σ.1 28 0 (240 * g + (30 * b + c)) + n)) (by omega) em
                    have te2 : ∀ v it x, (S_MO_tell (TE (xuI (xuI (xuI (RA (RA (ldc (ldc σ a (30 * b + c) (-n) (σ.1 1 0 c)) g (30 * b + c) n (σ.1 1 0 c)) m (nI a) (nI c) (-n)) (m + 1) (nI g) (nI c) n) 15 0 0 0) 28 0 (240 * a + (30 * b + c)) (σ.1 28 0 (240 * a + (30 * b + c)) - n)) 28 0 (240 * g + (30 * b + c)) (σ.1 28 0 (240 * g + (30 * b + c)) + n)) m (nI a) (nI c) (-n)) v it x).2 = TE (TE (xuI (xuI (xuI (RA (RA (ldc (ldc σ a (30 * b + c) (-n) (σ.1 1 0 c)) g (30 * b + c) n (σ.1 1 0 c)) m (nI a) (nI c) (-n)) (m + 1) (nI g) (nI c) n) 15 0 0 0) 28 0 (240 * a + (30 * b + c)) (σ.1 28 0 (240 * a + (30 * b + c)) - n)) 28 0 (240 * g + (30 * b + c)) (σ.1 28 0 (240 * g + (30 * b + c)) + n)) m (nI a) (nI c) (-n)) (m + 1) v it x := TE_eq (TE (xuI (xuI (xuI (RA (RA (ldc (ldc σ a (30 * b + c) (-n) (σ.1 1 0 c)) g (30 * b + c) n (σ.1 1 0 c)) m (nI a) (nI c) (-n)) (m + 1) (nI g) (nI c) n) 15 0 0 0) 28 0 (240 * a + (30 * b + c)) (σ.1 28 0 (240 * a + (30 * b + c)) - n)) 28 0 (240 * g + (30 * b + c)) (σ.1 28 0 (240 * g + (30 * b + c)) + n)) m (nI a) (nI c) (-n)) (by omega) rfl
                    have jne : ¬ (240 * g + (30 * b + c)) = (240 * a + (30 * b + c)) := by omega
                    have e1 : S_LW_swap σ (nI a) (nI g) (nI b) (nI c) n = (0, (RA (RA (ldc (ldc σ a (30 * b + c) (-n) (σ.1 1 0 c)) g (30 * b + c) n (σ.1 1 0 c)) m (nI a) (nI c) (-n)) (m + 1) (nI g) (nI c) n)) := by
                      simp only [ix_1 (show a < 2 ^ 31 by omega), ix_1 (show g < 2 ^ 31 by omega), ix_1 (show b < 2 ^ 31 by omega), ix_1 (show c < 2 ^ 31 by omega), cell_nI σ b c, ix_1 (show 30 * b + c < 2 ^ 31 by omega), ix_c3 ha hb hc0, ix_c3 hg hb hc0, S_LW_swap, S_LC_swap, kv_p h hv, kv_p h hu, show (nI a = nI g) = False from eq_false (fun q => hne (nI_inj q ha hg)), rc_p _ hc, ri_p _ hi, rr_p _ h1, rs_p h ha (show 30 * b + c < 240 by omega) hs, rb_p h hg hgv (show 30 * b + c < 240 by omega) hn hb2, ro_p h hg (show 30 * b + c < 240 by omega) hr, xbp_l, xbp_r, xca_l, xca_r, i1n0, if_true, if_false, ite_self, xu_s, xu_o, xu_j, xu_l, Nat.reduceEqDiff, not_false_eq_true, ve_ld _ _ _ (show 30 * b + c < 240 by omega), ldc_r, ra1, ra2]
                      try rfl
                    have e2 : S_MO_swap (RA (RA (ldc (ldc σ a (30 * b + c) (-n) (σ.1 1 0 c)) g (30 * b + c) n (σ.1 1 0 c)) m (nI a) (nI c) (-n)) (m + 1) (nI g) (nI c) n) (nI a) (nI g) (nI b) (nI c) n = ((), (TE (TE (xuI (xuI (xuI (RA (RA (ldc (ldc σ a (30 * b + c) (-n) (σ.1 1 0 c)) g (30 * b + c) n (σ.1 1 0 c)) m (nI a) (nI c) (-n)) (m + 1) (nI g) (nI c) n) 15 0 0 0) 28 0 (240 * a + (30 * b + c)) (σ.1 28 0 (240 * a + (30 * b + c)) - n)) 28 0 (240 * g + (30 * b + c)) (σ.1 28 0 (240 * g + (30 * b + c)) + n)) m (nI a) (nI c) (-n)) (m + 1) (nI g) (nI c) n)) := by
                      simp only [ix_1 (show a < 2 ^ 31 by omega), ix_1 (show g < 2 ^ 31 by omega), ix_1 (show b < 2 ^ 31 by omega), ix_1 (show c < 2 ^ 31 by omega), cell_nI σ b c, ix_1 (show 30 * b + c < 2 ^ 31 by omega), ix_c3 ha hb hc0, ix_c3 hg hb hc0, S_MO_swap, S_MO_isThing, iv_p (σ := (RA (RA (ldc (ldc σ a (30 * b + c) (-n) (σ.1 1 0 c)) g (30 * b + c) n (σ.1 1 0 c)) m (nI a) (nI c) (-n)) (m + 1) (nI g) (nI c) n)) h.nvr hv, iv_p (σ := (RA (RA (ldc (ldc σ a (30 * b + c) (-n) (σ.1 1 0 c)) g (30 * b + c) n (σ.1 1 0 c)) m (nI a) (nI c) (-n)) (m + 1) (nI g) (nI c) n)) h.nvr hu, show (nI g = nI a) = False from eq_false (fun q => hne (nI_inj q hg ha).symm), ic_p _ hc, ii_p _ hi, in_p _ h1, show (σ.1 28 0 (240 * a + (30 * b + c)) < n) = False from eq_false (Int32.not_lt.mpr hs), (tm_all (σ := (RA (RA (ldc (ldc σ a (30 * b + c) (-n) (σ.1 1 0 c)) g (30 * b + c) n (σ.1 1 0 c)) m (nI a) (nI c) (-n)) (m + 1) (nI g) (nI c) n)) (h.mb hg hgv) hg hb hc0 hn).2 hb2, hr, thr_0, xbp_l, xbp_r, xca_l, xca_r, i1n0, if_true, if_false, ite_self, xu_s, xu_o, xu_j, xu_l, Nat.reduceEqDiff, not_false_eq_true, ldc_r, xu_j _ _ _ _ _ jne, te1, te2, RAr]
                      try rfl
                    rw [e1]
                    show Rel (t + 1) (S_MO_swap (RA (RA (ldc (ldc σ a (30 * b + c) (-n) (σ.1 1 0 c)) g (30 * b + c) n (σ.1 1 0 c)) m (nI a) (nI c) (-n)) (m + 1) (nI g) (nI c) n) (nI a) (nI g) (nI b) (nI c) n).2 ∧ S_MO_thrown (S_MO_swap (RA (RA (ldc (ldc σ a (30 * b + c) (-n) (σ.1 1 0 c)) g (30 * b + c) n (σ.1 1 0 c)) m (nI a) (nI c) (-n)) (m + 1) (nI g) (nI c) n) (nI a) (nI g) (nI b) (nI c) n).2 = 0
                    rw [e2]
                    refine ⟨?_, rfl⟩
                    have hx := h.cor (240 * a + (30 * b + c)) (by omega)
                    have hy := h.cor (240 * g + (30 * b + c)) (by omega)
                    rw [Int32.le_iff_toInt_le] at hs hr
                    have n9 : (99 : Int32).toInt = 99 := rfl
                    have e8 : (σ.1 28 0 (240 * g + (30 * b + c)) + n).toInt = (σ.1 28 0 (240 * g + (30 * b + c))).toInt + n.toInt := i_add (by omega) (by omega)
                    have e9 : (-n).toInt = -n.toInt := l_n n (by omega)
                    have h1 := h.load (a := a) (j := (30 * b + c)) (n := -n) (w := σ.1 1 0 c) ha hav (by omega) (by rw [h.we c hc0, show (30 * b + c) % 30 = c by omega]) (by omega) (by omega)
                    have eg : ((xuI (ldc σ a (30 * b + c) (-n) (σ.1 1 0 c)) 28 0 (240 * a + (30 * b + c)) (σ.1 28 0 (240 * a + (30 * b + c)) + -n))).1 28 0 (240 * g + (30 * b + c)) = σ.1 28 0 (240 * g + (30 * b + c)) := xu_j _ _ _ _ _ jne
                    have h2 := h1.load (a := g) (j := (30 * b + c)) (n := n) (w := σ.1 1 0 c) hg hgv (by omega) (by rw [show (30 * b + c) % 30 = c by omega]; exact h.we c hc0) (by omega) (by rw [eg]; omega)
                    rw [eg] at h2
                    have h3 := h2.tell (t' := t + 1) (m := m) (by omega) em (by omega) (nI a) (nI c) (-n)
                    have h4 := (h3.tell (t' := t + 1) (m := m + 1) (by omega) rfl (by omega) (nI g) (nI c) n)
                    rw [Int32.sub_eq_add_neg]
                    clear h
                    have h := h4
                    exact ⟨h.nv, h.nvr, h.dy, h.sh, h.dyr, h.shr, h.we, h.wer, h.le, h.st, h.str, h.ne, h.ner, h.co, h.cor, h.coz, h.kd, h.kdr, h.ba, h.bar, h.fr, h.frr, h.re, h.rer, h.pl, h.plr, h.se, h.ser, h.en, h.enz, h.enr, h.bt, h.btz, h.ck, h.ckz, h.gr, h.mo, h.rw, h.rwr, h.to⟩
                  · have e1 : S_LW_swap σ (nI a) (nI g) (nI b) (nI c) n = (4, σ) := by
                      simp only [ix_1 (show a < 2 ^ 31 by omega), ix_1 (show g < 2 ^ 31 by omega), ix_1 (show b < 2 ^ 31 by omega), ix_1 (show c < 2 ^ 31 by omega), cell_nI σ b c, ix_1 (show 30 * b + c < 2 ^ 31 by omega), ix_c3 ha hb hc0, ix_c3 hg hb hc0, S_LW_swap, S_LC_swap, kv_p h hv, kv_p h hu, show (nI a = nI g) = False from eq_false (fun q => hne (nI_inj q ha hg)), rc_p _ hc, ri_p _ hi, rr_p _ h1, rs_p h ha (show 30 * b + c < 240 by omega) hs, rb_p h hg hgv (show 30 * b + c < 240 by omega) hn hb2, ro_n h hg (show 30 * b + c < 240 by omega) hr, ex_da, ex_db, ex_dc, xbp_l, xbp_r, xca_l, xca_r, i1n0, if_true, if_false, ite_self]
                      try rfl
                    have e2 : S_MO_swap σ (nI a) (nI g) (nI b) (nI c) n = ((), xuI σ 15 0 0 4) := by
                      simp only [ix_1 (show a < 2 ^ 31 by omega), ix_1 (show g < 2 ^ 31 by omega), ix_1 (show b < 2 ^ 31 by omega), ix_1 (show c < 2 ^ 31 by omega), cell_nI σ b c, ix_1 (show 30 * b + c < 2 ^ 31 by omega), ix_c3 ha hb hc0, ix_c3 hg hb hc0, S_MO_swap, S_MO_isThing, iv_p (σ := σ) h.nvr hv, iv_p (σ := σ) h.nvr hu, show (nI g = nI a) = False from eq_false (fun q => hne (nI_inj q hg ha).symm), ic_p _ hc, ii_p _ hi, in_p _ h1, show (σ.1 28 0 (240 * a + (30 * b + c)) < n) = False from eq_false (Int32.not_lt.mpr hs), (tm_all (σ := σ) (h.mb hg hgv) hg hb hc0 hn).2 hb2, hr, thr_4, xbp_l, xbp_r, xca_l, xca_r, i1n0, if_true, if_false, ite_self]
                      try rfl
                    rw [e1]
                    show Rel (t + 1) (S_MO_swap σ (nI a) (nI g) (nI b) (nI c) n).2 ∧ S_MO_thrown (S_MO_swap σ (nI a) (nI g) (nI b) (nI c) n).2 = 4
                    rw [e2]
                    exact ⟨h.thr 4, rfl⟩
                · have e1 : S_LW_swap σ (nI a) (nI g) (nI b) (nI c) n = (3, σ) := by
                    simp only [ix_1 (show a < 2 ^ 31 by omega), ix_1 (show g < 2 ^ 31 by omega), ix_1 (show b < 2 ^ 31 by omega), ix_1 (show c < 2 ^ 31 by omega), cell_nI σ b c, ix_1 (show 30 * b + c < 2 ^ 31 by omega), ix_c3 ha hb hc0, ix_c3 hg hb hc0, S_LW_swap, S_LC_swap, kv_p h hv, kv_p h hu, show (nI a = nI g) = False from eq_false (fun q => hne (nI_inj q ha hg)), rc_p _ hc, ri_p _ hi, rr_p _ h1, rs_p h ha (show 30 * b + c < 240 by omega) hs, rb_n h hg hgv (show 30 * b + c < 240 by omega) hn (Classical.not_not.mp hb2), ex_ca, ex_cb, ex_cc, xbp_l, xbp_r, xca_l, xca_r, i1n0, if_true, if_false, ite_self]
                    try rfl
                  have e2 : S_MO_swap σ (nI a) (nI g) (nI b) (nI c) n = ((), xuI σ 15 0 0 3) := by
                    simp only [ix_1 (show a < 2 ^ 31 by omega), ix_1 (show g < 2 ^ 31 by omega), ix_1 (show b < 2 ^ 31 by omega), ix_1 (show c < 2 ^ 31 by omega), cell_nI σ b c, ix_1 (show 30 * b + c < 2 ^ 31 by omega), ix_c3 ha hb hc0, ix_c3 hg hb hc0, S_MO_swap, S_MO_isThing, iv_p (σ := σ) h.nvr hv, iv_p (σ := σ) h.nvr hu, show (nI g = nI a) = False from eq_false (fun q => hne (nI_inj q hg ha).symm), ic_p _ hc, ii_p _ hi, in_p _ h1, show (σ.1 28 0 (240 * a + (30 * b + c)) < n) = False from eq_false (Int32.not_lt.mpr hs), (tm_all (σ := σ) (h.mb hg hgv) hg hb hc0 hn).1 (Classical.not_not.mp hb2), thr_3, xbp_l, xbp_r, xca_l, xca_r, i1n0, if_true, if_false, ite_self]
                    try rfl
                  rw [e1]
                  show Rel (t + 1) (S_MO_swap σ (nI a) (nI g) (nI b) (nI c) n).2 ∧ S_MO_thrown (S_MO_swap σ (nI a) (nI g) (nI b) (nI c) n).2 = 3
                  rw [e2]
                  exact ⟨h.thr 3, rfl⟩
              · have e1 : S_LW_swap σ (nI a) (nI g) (nI b) (nI c) n = (3, σ) := by
                  simp only [ix_1 (show a < 2 ^ 31 by omega), ix_1 (show g < 2 ^ 31 by omega), ix_1 (show b < 2 ^ 31 by omega), ix_1 (show c < 2 ^ 31 by omega), cell_nI σ b c, ix_1 (show 30 * b + c < 2 ^ 31 by omega), ix_c3 ha hb hc0, ix_c3 hg hb hc0, S_LW_swap, S_LC_swap, kv_p h hv, kv_p h hu, show (nI a = nI g) = False from eq_false (fun q => hne (nI_inj q ha hg)), rc_p _ hc, ri_p _ hi, rr_p _ h1, rs_n h ha (show 30 * b + c < 240 by omega) hs, ex_ca, ex_cb, ex_cc, xbp_l, xbp_r, xca_l, xca_r, i1n0, if_true, if_false, ite_self]
                  try rfl
                have e2 : S_MO_swap σ (nI a) (nI g) (nI b) (nI c) n = ((), xuI σ 15 0 0 3) := by
                  simp only [ix_1 (show a < 2 ^ 31 by omega), ix_1 (show g < 2 ^ 31 by omega), ix_1 (show b < 2 ^ 31 by omega), ix_1 (show c < 2 ^ 31 by omega), cell_nI σ b c, ix_1 (show 30 * b + c < 2 ^ 31 by omega), ix_c3 ha hb hc0, ix_c3 hg hb hc0, S_MO_swap, S_MO_isThing, iv_p (σ := σ) h.nvr hv, iv_p (σ := σ) h.nvr hu, show (nI g = nI a) = False from eq_false (fun q => hne (nI_inj q hg ha).symm), ic_p _ hc, ii_p _ hi, in_p _ h1, show (σ.1 28 0 (240 * a + (30 * b + c)) < n) = True from eq_true (Int32.not_le.mp hs), thr_3, xbp_l, xbp_r, xca_l, xca_r, i1n0, if_true, if_false, ite_self]
                  try rfl
                rw [e1]
                show Rel (t + 1) (S_MO_swap σ (nI a) (nI g) (nI b) (nI c) n).2 ∧ S_MO_thrown (S_MO_swap σ (nI a) (nI g) (nI b) (nI c) n).2 = 3
                rw [e2]
                exact ⟨h.thr 3, rfl⟩
            · have e1 : S_LW_swap σ (nI a) (nI g) (nI b) (nI c) n = (2, σ) := by
                simp only [ix_1 (show a < 2 ^ 31 by omega), ix_1 (show g < 2 ^ 31 by omega), ix_1 (show b < 2 ^ 31 by omega), ix_1 (show c < 2 ^ 31 by omega), cell_nI σ b c, ix_1 (show 30 * b + c < 2 ^ 31 by omega), ix_c3 ha hb hc0, ix_c3 hg hb hc0, S_LW_swap, S_LC_swap, kv_p h hv, kv_p h hu, show (nI a = nI g) = False from eq_false (fun q => hne (nI_inj q ha hg)), rc_p _ hc, ri_p _ hi, rr_n _ h1, ex_ba, ex_bb, xbp_l, xbp_r, xca_l, xca_r, i1n0, if_true, if_false, ite_self]
                try rfl
              have e2 : S_MO_swap σ (nI a) (nI g) (nI b) (nI c) n = ((), xuI σ 15 0 0 2) := by
                simp only [ix_1 (show a < 2 ^ 31 by omega), ix_1 (show g < 2 ^ 31 by omega), ix_1 (show b < 2 ^ 31 by omega), ix_1 (show c < 2 ^ 31 by omega), cell_nI σ b c, ix_1 (show 30 * b + c < 2 ^ 31 by omega), ix_c3 ha hb hc0, ix_c3 hg hb hc0, S_MO_swap, S_MO_isThing, iv_p (σ := σ) h.nvr hv, iv_p (σ := σ) h.nvr hu, show (nI g = nI a) = False from eq_false (fun q => hne (nI_inj q hg ha).symm), ic_p _ hc, ii_p _ hi, in_n _ h1, thr_2, xbp_l, xbp_r, xca_l, xca_r, i1n0, if_true, if_false, ite_self]
                try rfl
              rw [e1]
              show Rel (t + 1) (S_MO_swap σ (nI a) (nI g) (nI b) (nI c) n).2 ∧ S_MO_thrown (S_MO_swap σ (nI a) (nI g) (nI b) (nI c) n).2 = 2
              rw [e2]
              exact ⟨h.thr 2, rfl⟩
          · have e1 : S_LW_swap σ (nI a) (nI g) (nI b) it n = (1, σ) := by
              simp only [ix_1 (show a < 2 ^ 31 by omega), ix_1 (show g < 2 ^ 31 by omega), ix_1 (show b < 2 ^ 31 by omega), S_LW_swap, S_LC_swap, kv_p h hv, kv_p h hu, show (nI a = nI g) = False from eq_false (fun q => hne (nI_inj q ha hg)), rc_p _ hc, ri_n _ hi, ex_aa, xbp_l, xbp_r, xca_l, xca_r, i1n0, if_true, if_false, ite_self]
              try rfl
            have e2 : S_MO_swap σ (nI a) (nI g) (nI b) it n = ((), xuI σ 15 0 0 1) := by
              simp only [ix_1 (show a < 2 ^ 31 by omega), ix_1 (show g < 2 ^ 31 by omega), ix_1 (show b < 2 ^ 31 by omega), S_MO_swap, S_MO_isThing, iv_p (σ := σ) h.nvr hv, iv_p (σ := σ) h.nvr hu, show (nI g = nI a) = False from eq_false (fun q => hne (nI_inj q hg ha).symm), ic_p _ hc, ii_n _ hi, thr_1, xbp_l, xbp_r, xca_l, xca_r, i1n0, if_true, if_false, ite_self]
              try rfl
            rw [e1]
            show Rel (t + 1) (S_MO_swap σ (nI a) (nI g) (nI b) it n).2 ∧ S_MO_thrown (S_MO_swap σ (nI a) (nI g) (nI b) it n).2 = 1
            rw [e2]
            exact ⟨h.thr 1, rfl⟩
        · have e1 : S_LW_swap σ (nI a) (nI g) cup it n = (1, σ) := by
            simp only [ix_1 (show a < 2 ^ 31 by omega), ix_1 (show g < 2 ^ 31 by omega), S_LW_swap, S_LC_swap, kv_p h hv, kv_p h hu, show (nI a = nI g) = False from eq_false (fun q => hne (nI_inj q ha hg)), rc_n _ hc, ex_aa, xbp_l, xbp_r, xca_l, xca_r, i1n0, if_true, if_false, ite_self]
            try rfl
          have e2 : S_MO_swap σ (nI a) (nI g) cup it n = ((), xuI σ 15 0 0 1) := by
            simp only [ix_1 (show a < 2 ^ 31 by omega), ix_1 (show g < 2 ^ 31 by omega), S_MO_swap, S_MO_isThing, iv_p (σ := σ) h.nvr hv, iv_p (σ := σ) h.nvr hu, show (nI g = nI a) = False from eq_false (fun q => hne (nI_inj q hg ha).symm), ic_n _ hc, thr_1, xbp_l, xbp_r, xca_l, xca_r, i1n0, if_true, if_false, ite_self]
            try rfl
          rw [e1]
          show Rel (t + 1) (S_MO_swap σ (nI a) (nI g) cup it n).2 ∧ S_MO_thrown (S_MO_swap σ (nI a) (nI g) cup it n).2 = 1
          rw [e2]
          exact ⟨h.thr 1, rfl⟩
      · have e1 : S_LW_swap σ (nI a) (nI g) cup it n = (1, σ) := by
          simp only [ix_1 (show a < 2 ^ 31 by omega), ix_1 (show g < 2 ^ 31 by omega), S_LW_swap, S_LC_swap, kv_p h hv, kv_p h hu, show (nI a = nI g) = True from eq_true (congrArg nI (Classical.not_not.mp hne)), show ("java/lang/IllegalArgumentException" = "java/lang/IllegalArgumentException") = True from eq_true rfl, xbp_l, xbp_r, xca_l, xca_r, i1n0, if_true, if_false, ite_self]
          try rfl
        have e2 : S_MO_swap σ (nI a) (nI g) cup it n = ((), xuI σ 15 0 0 1) := by
          simp only [ix_1 (show a < 2 ^ 31 by omega), ix_1 (show g < 2 ^ 31 by omega), S_MO_swap, S_MO_isThing, iv_p (σ := σ) h.nvr hv, iv_p (σ := σ) h.nvr hu, show (nI g = nI a) = True from eq_true (congrArg nI (Classical.not_not.mp hne)).symm, thr_1, xbp_l, xbp_r, xca_l, xca_r, i1n0, if_true, if_false, ite_self]
          try rfl
        rw [e1]
        show Rel (t + 1) (S_MO_swap σ (nI a) (nI g) cup it n).2 ∧ S_MO_thrown (S_MO_swap σ (nI a) (nI g) cup it n).2 = 1
        rw [e2]
        exact ⟨h.thr 1, rfl⟩
    · have e1 : S_LW_swap σ (nI a) u cup it n = (1, σ) := by
        simp only [ix_1 (show a < 2 ^ 31 by omega), S_LW_swap, S_LC_swap, kv_p h hv, kv_n h hu, ex_aa, xbp_l, xbp_r, xca_l, xca_r, i1n0, if_true, if_false, ite_self]
        try rfl
      have e2 : S_MO_swap σ (nI a) u cup it n = ((), xuI σ 15 0 0 1) := by
        simp only [ix_1 (show a < 2 ^ 31 by omega), S_MO_swap, S_MO_isThing, iv_p (σ := σ) h.nvr hv, iv_n (σ := σ) h.nvr hu, thr_1, xbp_l, xbp_r, xca_l, xca_r, i1n0, if_true, if_false, ite_self]
        try rfl
      rw [e1]
      show Rel (t + 1) (S_MO_swap σ (nI a) u cup it n).2 ∧ S_MO_thrown (S_MO_swap σ (nI a) u cup it n).2 = 1
      rw [e2]
      exact ⟨h.thr 1, rfl⟩
  · have e1 : S_LW_swap σ v u cup it n = (1, σ) := by
      simp only [S_LW_swap, S_LC_swap, kv_n h hv, ex_aa, xbp_l, xbp_r, xca_l, xca_r, i1n0, if_true, if_false, ite_self]
      try rfl
    have e2 : S_MO_swap σ v u cup it n = ((), xuI σ 15 0 0 1) := by
      simp only [S_MO_swap, S_MO_isThing, iv_n (σ := σ) h.nvr hv, thr_1, xbp_l, xbp_r, xca_l, xca_r, i1n0, if_true, if_false, ite_self]
      try rfl
    rw [e1]
    show Rel (t + 1) (S_MO_swap σ v u cup it n).2 ∧ S_MO_thrown (S_MO_swap σ v u cup it n).2 = 1
    rw [e2]
    exact ⟨h.thr 1, rfl⟩
