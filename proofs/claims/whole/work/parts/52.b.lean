def dRr (σ : XS) (a j : Nat) (N : Int) : Int := (σ.1 16 0 (j % 30)).toInt * N * (σ.1 24 0 (8 * a + j / 30)).toInt
def dFf (σ : XS) (a j : Nat) (N : Int) : Int := (σ.1 16 0 (j % 30)).toInt * N * (σ.1 20 0 a).toInt - dRr σ a j N
def GG (σ : XS) (a : Nat) : Int := isum (gw σ a) 240 * (σ.1 20 0 a).toInt - isum (gm σ a) 240
def MM (σ : XS) (a : Nat) : Int := isum (gm σ a) 240
def LF (σ : XS) (a : Nat) : Int := (σ.1 21 0 a).toInt * (σ.1 20 0 a).toInt
def LR (σ : XS) (a : Nat) : Int := (σ.1 22 0 a).toInt * (σ.1 20 0 a).toInt
def TM (σ : XS) (a j : Nat) (N : Int) : Prop := (0 < dFf σ a j N ∧ LF σ a < GG σ a + dFf σ a j N) ∨ (0 < dRr σ a j N ∧ LR σ a < MM σ a + dRr σ a j N)
def MB (σ : XS) (a : Nat) : Prop := Bds σ ∧ (∀ j, j < 3840 → 0 ≤ (σ.1 28 0 j).toInt ∧ (σ.1 28 0 j).toInt ≤ 99) ∧ (1000 ≤ (σ.1 20 0 a).toInt ∧ (σ.1 20 0 a).toInt ≤ 8000) ∧ (0 ≤ (σ.1 21 0 a).toInt ∧ (σ.1 21 0 a).toInt ≤ 20000000) ∧ 0 ≤ (σ.1 22 0 a).toInt ∧ (σ.1 22 0 a).toInt ≤ 20000000
theorem Rel.mb {t : Nat} {σ : XS} (h : Rel t σ) {a : Nat} (ha : a < 16) (hav : (a : Int) < (σ.1 15 0 6).toInt) : MB σ a := ⟨h.bds, h.cor, h.bar a ha hav, h.frr a ha, h.rer a ha⟩
theorem tm_all {σ : XS} {a b c : Nat} {n : Int32} (m : MB σ a) (ha : a < 16) (hb : b < 8) (hc : c < 30) (hn : 1 ≤ n.toInt ∧ n.toInt ≤ 99) :
    (TM σ a (30 * b + c) n.toInt → (S_MO_isTooMuch σ (nI a) (nI b) (nI c) n).1 = 1) ∧ (¬ TM σ a (30 * b + c) n.toInt → (S_MO_isTooMuch σ (nI a) (nI b) (nI c) n).1 = 0) := by
  have hbd := m.1
  have hJ : 30 * b + c < 240 := by omega
  have hco := m.2.1 (240 * a + (30 * b + c)) (by omega)
  have hba := m.2.2.1
  have hbb : 0 ≤ (σ.1 20 0 a).toInt ∧ (σ.1 20 0 a).toInt ≤ 8000 := by omega
  have hx : (σ.1 28 0 (240 * a + (30 * b + c)) + n).toInt = (σ.1 28 0 (240 * a + (30 * b + c))).toInt + n.toInt := i_add (by omega) (by omega)
  have k1 := mo_y0 (σ := xuI σ 28 0 (240 * a + (30 * b + c)) (σ.1 28 0 (240 * a + (30 * b + c)) + n)) (a := a) ⟨hbd.1, fun j hj => by
    by_cases q : j = 240 * a + (30 * b + c)
    · rw [q, xu_s, hx]
      omega
    · rw [xu_j _ _ _ _ _ q]
      exact hbd.2.1 j hj, hbd.2.2⟩ ha hbb m.2.2.2.1
  have k3 := mo_y1 (σ := xuI σ 28 0 (240 * a + (30 * b + c)) (σ.1 28 0 (240 * a + (30 * b + c)) + n)) (a := a) ⟨hbd.1, fun j hj => by
    by_cases q : j = 240 * a + (30 * b + c)
    · rw [q, xu_s, hx]
      omega
    · rw [xu_j _ _ _ _ _ q]
      exact hbd.2.1 j hj, hbd.2.2⟩ ha hbb m.2.2.2.2
  have b0 := mo_b0 (σ := xuI σ 28 0 (240 * a + (30 * b + c)) (σ.1 28 0 (240 * a + (30 * b + c)) + n)) (a := a) ⟨hbd.1, fun j hj => by
    by_cases q : j = 240 * a + (30 * b + c)
    · rw [q, xu_s, hx]
      omega
    · rw [xu_j _ _ _ _ _ q]
      exact hbd.2.1 j hj, hbd.2.2⟩ ha hbb
  have b1 := mo_b1 (σ := xuI σ 28 0 (240 * a + (30 * b + c)) (σ.1 28 0 (240 * a + (30 * b + c)) + n)) (a := a) ⟨hbd.1, fun j hj => by
    by_cases q : j = 240 * a + (30 * b + c)
    · rw [q, xu_s, hx]
      omega
    · rw [xu_j _ _ _ _ _ q]
      exact hbd.2.1 j hj, hbd.2.2⟩ ha
  have g1 := gw_u (n := 0) hJ ha hx
  have g2 := gm_u (n := 0) hJ ha hx
  rw [g1, g2] at k1 b0
  rw [g2] at k3 b1
  have b0' := mo_b0 hbd ha hbb
  have b1' := mo_b1 hbd ha
  have e1 : (isum (gw σ a) 240 + (σ.1 16 0 ((30 * b + c) % 30)).toInt * n.toInt) * (σ.1 20 0 a).toInt - (isum (gm σ a) 240 + (σ.1 16 0 ((30 * b + c) % 30)).toInt * n.toInt * (σ.1 24 0 (8 * a + (30 * b + c) / 30)).toInt) = GG σ a + dFf σ a (30 * b + c) n.toInt := by
    unfold GG dFf dRr
    rw [Int.add_mul]
    omega
  change _ ↔ (isum (gw σ a) 240 + (σ.1 16 0 ((30 * b + c) % 30)).toInt * n.toInt) * (σ.1 20 0 a).toInt - (isum (gm σ a) 240 + (σ.1 16 0 ((30 * b + c) % 30)).toInt * n.toInt * (σ.1 24 0 (8 * a + (30 * b + c) / 30)).toInt) ≤ LF σ a at k1
  rw [e1] at k1
  change _ ↔ MM σ a + dRr σ a (30 * b + c) n.toInt ≤ LR σ a at k3
  have b0 := b0.trans e1
  change _ = MM σ a + dRr σ a (30 * b + c) n.toInt at b1
  have k2 : 0 < lg_cmp (S_MO_bears (xuI σ 28 0 (240 * a + (30 * b + c)) (σ.1 28 0 (240 * a + (30 * b + c)) + n)) (nI a) 0) (S_MO_bears σ (nI a) 0) ↔ 0 < dFf σ a (30 * b + c) n.toInt := by
    rw [cmp_gt, b0, b0']
    show GG σ a < _ ↔ _
    omega
  have k4 : lg_cmp (S_MO_bears (xuI σ 28 0 (240 * a + (30 * b + c)) (σ.1 28 0 (240 * a + (30 * b + c)) + n)) (nI a) 1) (S_MO_bears σ (nI a) 1) ≤ 0 ↔ dRr σ a (30 * b + c) n.toInt ≤ 0 := by
    rw [cmp_iff, b1, b1']
    show _ ≤ MM σ a ↔ _
    omega
  unfold S_MO_isTooMuch TM
  rw [ix_c3 ha hb hc]
  generalize xuI σ 28 0 (240 * a + (30 * b + c)) (σ.1 28 0 (240 * a + (30 * b + c)) + n) = σ' at k1 k2 k3 k4 ⊢
  generalize dFf σ a (30 * b + c) n.toInt = X at k1 k2 k3 k4 ⊢
  generalize dRr σ a (30 * b + c) n.toInt = Y at k1 k2 k3 k4 ⊢
  by_cases p1 : S_MO_isBeyond σ' (nI a) 0 = 0
  · rw [if_pos p1]
    have q1 := k1.mp p1
    by_cases p3 : S_MO_isBeyond σ' (nI a) 1 = 0
    · rw [if_pos p3]
      have q3 := k3.mp p3
      exact ⟨fun z => by exfalso; omega, fun _ => rfl⟩
    · rw [if_neg p3]
      have q3 := mt k3.mpr p3
      by_cases p4 : lg_cmp (S_MO_bears σ' (nI a) 1) (S_MO_bears σ (nI a) 1) ≤ 0
      · rw [if_pos p4]
        have q4 := k4.mp p4
        exact ⟨fun z => by exfalso; omega, fun _ => rfl⟩
      · rw [if_neg p4]
        have q4 := mt k4.mpr p4
        exact ⟨fun _ => rfl, fun z => by exfalso; omega⟩
  · rw [if_neg p1]
    have q1 := mt k1.mpr p1
    by_cases p2 : 0 < lg_cmp (S_MO_bears σ' (nI a) 0) (S_MO_bears σ (nI a) 0)
    · rw [if_pos p2]
      have q2 := k2.mp p2
      exact ⟨fun _ => rfl, fun z => by exfalso; omega⟩
    · rw [if_neg p2]
      have q2 := mt k2.mpr p2
      by_cases p3 : S_MO_isBeyond σ' (nI a) 1 = 0
      · rw [if_pos p3]
        have q3 := k3.mp p3
        exact ⟨fun z => by exfalso; omega, fun _ => rfl⟩
      · rw [if_neg p3]
        have q3 := mt k3.mpr p3
        by_cases p4 : lg_cmp (S_MO_bears σ' (nI a) 1) (S_MO_bears σ (nI a) 1) ≤ 0
        · rw [if_pos p4]
          have q4 := k4.mp p4
          exact ⟨fun z => by exfalso; omega, fun _ => rfl⟩
        · rw [if_neg p4]
          have q4 := mt k4.mpr p4
          exact ⟨fun _ => rfl, fun z => by exfalso; omega⟩
theorem ve_ex {σ : XS} {a : Nat} {mo : Int64} {lim : Int32} (hb : 0 ≤ (σ.1 9 a 6).toInt ∧ (σ.1 9 a 6).toInt ≤ 8000) (hl : 0 ≤ lim.toInt ∧ lim.toInt ≤ 20000000) : S_VE_exceeds σ a mo lim = 0 ↔ mo.toInt ≤ lim.toInt * (σ.1 9 a 6).toInt := by
  unfold S_VE_exceeds
  have e := cmp_iff (x := mo) (y := lim.toInt64 * (σ.1 9 a 6).toInt64)
  rw [lim_l (σ := σ) hl hb] at e
  by_cases c : lg_cmp mo (lim.toInt64 * (σ.1 9 a 6).toInt64) ≤ 0
  · rw [if_pos c]
    exact ⟨fun _ => e.mp c, fun _ => rfl⟩
  · rw [if_neg c]
    exact ⟨fun q => absurd q i1n0, fun q => absurd (e.mpr q) c⟩
theorem ve_fm {t : Nat} {σ : XS} (h : Rel t σ) {a : Nat} (ha : a < 16) (hav : (a : Int) < (σ.1 15 0 6).toInt) : (S_VE_frontMoment σ a).toInt = GG σ a := by
  unfold S_VE_frontMoment GG
  have hba := h.bar a ha hav
  have b1 := sw_bd h.bds ha (n := 240) (by omega)
  have b2 := sm_bd h.bds ha (n := 240) (by omega)
  have b3 := mul_bd b1.1 b1.2 (y := (σ.1 20 0 a).toInt) (Y := 8000) (by omega) hba.2
  have e1 : (σ.2 9 a 11 * (σ.1 9 a 6).toInt64).toInt = isum (gw σ a) 240 * (σ.1 20 0 a).toInt := by
    rw [h.ba a ha hav, l_mul (by rw [h.gr a ha, l_of]; omega) (by rw [h.gr a ha, l_of]; omega), h.gr a ha, l_of]
  rw [l_sub (by rw [e1, h.mo a ha]; omega) (by rw [e1, h.mo a ha]; omega), e1, h.mo a ha]
theorem GG_bd {t : Nat} {σ : XS} (h : Rel t σ) {a : Nat} (ha : a < 16) (hav : (a : Int) < (σ.1 15 0 6).toInt) : -1000000000000000 ≤ GG σ a ∧ GG σ a ≤ 1000000000000000 := by
  unfold GG
  have hba := h.bar a ha hav
  have b1 := sw_bd h.bds ha (n := 240) (by omega)
  have b2 := sm_bd h.bds ha (n := 240) (by omega)
  have b3 := mul_bd b1.1 b1.2 (y := (σ.1 20 0 a).toInt) (Y := 8000) (by omega) hba.2
  omega
theorem be_all {t : Nat} {σ : XS} (h : Rel t σ) {a j : Nat} {n w : Int32} (ha : a < 16) (hav : (a : Int) < (σ.1 15 0 6).toInt) (hJ : j < 240) (hw : w = σ.1 16 0 (j % 30)) (hn : 1 ≤ n.toInt ∧ n.toInt ≤ 99) :
    (TM σ a j n.toInt → S_VE_bears σ a (nI j) n w = 0) ∧ (¬ TM σ a j n.toInt → S_VE_bears σ a (nI j) n w = 1) := by
  subst hw
  have hbd := h.bds
  have hba := h.bar a ha hav
  have hbc : 0 ≤ (σ.1 9 a 6).toInt ∧ (σ.1 9 a 6).toInt ≤ 8000 := by rw [h.ba a ha hav]; omega
  have hwe := h.wer (j % 30) (by omega)
  have hpl := h.plr (8 * a + j / 30) (by omega)
  have b1 := mul_bd hwe.1 hwe.2 (y := n.toInt) (Y := 99) (by omega) hn.2
  have b2 := mul_bd2 b1.1 b1.2 (y := (σ.1 24 0 (8 * a + j / 30)).toInt) (Y := 10000) (by omega) hpl.2
  have b3 := mul_bd b1.1 b1.2 (y := (σ.1 20 0 a).toInt) (Y := 8000) (by omega) hba.2
  have e1 : ((σ.1 16 0 (j % 30)).toInt64 * n.toInt64).toInt = (σ.1 16 0 (j % 30)).toInt * n.toInt := by
    rw [l_mul (by rw [l_of, l_of]; omega) (by rw [l_of, l_of]; omega), l_of, l_of]
  have eY : ((σ.1 16 0 (j % 30)).toInt64 * n.toInt64 * (σ.1 10 a (j / 30)).toInt64).toInt = dRr σ a j n.toInt := by
    rw [h.pl a ha _ (by omega), l_mul (by rw [e1, l_of]; omega) (by rw [e1, l_of]; omega), e1, l_of]
    rfl
  have e3 : ((σ.1 16 0 (j % 30)).toInt64 * n.toInt64 * (σ.1 9 a 6).toInt64).toInt = (σ.1 16 0 (j % 30)).toInt * n.toInt * (σ.1 20 0 a).toInt := by
    rw [h.ba a ha hav, l_mul (by rw [e1, l_of]; omega) (by rw [e1, l_of]; omega), e1, l_of]
  have hYb : -495000000000 ≤ dRr σ a j n.toInt ∧ dRr σ a j n.toInt ≤ 495000000000 := by
    unfold dRr
    omega
  have eX : ((σ.1 16 0 (j % 30)).toInt64 * n.toInt64 * (σ.1 9 a 6).toInt64 - (σ.1 16 0 (j % 30)).toInt64 * n.toInt64 * (σ.1 10 a (j / 30)).toInt64).toInt = dFf σ a j n.toInt := by
    rw [l_sub (by rw [e3, eY]; omega) (by rw [e3, eY]; omega), e3, eY]
    rfl
  have hXb : -1000000000000 ≤ dFf σ a j n.toInt ∧ dFf σ a j n.toInt ≤ 1000000000000 := by
    unfold dFf
    omega
  have hG := GG_bd h ha hav
  have hM := sm_bd hbd ha (n := 240) (by omega)
  have eF : (S_VE_frontMoment σ a + ((σ.1 16 0 (j % 30)).toInt64 * n.toInt64 * (σ.1 9 a 6).toInt64 - (σ.1 16 0 (j % 30)).toInt64 * n.toInt64 * (σ.1 10 a (j / 30)).toInt64)).toInt = GG σ a + dFf σ a j n.toInt := by
    rw [l_add (by rw [ve_fm h ha hav, eX]; omega) (by rw [ve_fm h ha hav, eX]; omega), ve_fm h ha hav, eX]
  have eR0 : (S_VE_rearMoment σ a).toInt = MM σ a := h.mo a ha
  have hMM : -237600000000000 ≤ MM σ a ∧ MM σ a ≤ 237600000000000 := hM
  have eR : (S_VE_rearMoment σ a + (σ.1 16 0 (j % 30)).toInt64 * n.toInt64 * (σ.1 10 a (j / 30)).toInt64).toInt = MM σ a + dRr σ a j n.toInt := by
    rw [l_add (by rw [eR0, eY]; omega) (by rw [eR0, eY]; omega), eR0, eY]
  have k1 : lg_cmp ((σ.1 16 0 (j % 30)).toInt64 * n.toInt64 * (σ.1 9 a 6).toInt64 - (σ.1 16 0 (j % 30)).toInt64 * n.toInt64 * (σ.1 10 a (j / 30)).toInt64) 0 ≤ 0 ↔ dFf σ a j n.toInt ≤ 0 := by
    rw [cmp_iff, eX]
    rfl
  have k2 : lg_cmp ((σ.1 16 0 (j % 30)).toInt64 * n.toInt64 * (σ.1 10 a (j / 30)).toInt64) 0 ≤ 0 ↔ dRr σ a j n.toInt ≤ 0 := by
    rw [cmp_iff, eY]
    rfl
  have k3 := ve_ex (σ := σ) (a := a) (mo := S_VE_frontMoment σ a + ((σ.1 16 0 (j % 30)).toInt64 * n.toInt64 * (σ.1 9 a 6).toInt64 - (σ.1 16 0 (j % 30)).toInt64 * n.toInt64 * (σ.1 10 a (j / 30)).toInt64)) (lim := σ.1 9 a 7) hbc (by rw [h.fr a ha]; exact h.frr a ha)
  have k4 := ve_ex (σ := σ) (a := a) (mo := S_VE_rearMoment σ a + (σ.1 16 0 (j % 30)).toInt64 * n.toInt64 * (σ.1 10 a (j / 30)).toInt64) (lim := σ.1 9 a 8) hbc (by rw [h.re a ha]; exact h.rer a ha)
  rw [eF] at k3
  rw [eR] at k4
  rw [show (σ.1 9 a 7).toInt * (σ.1 9 a 6).toInt = LF σ a by unfold LF; rw [h.fr a ha, h.ba a ha hav]] at k3
  rw [show (σ.1 9 a 8).toInt * (σ.1 9 a 6).toInt = LR σ a by unfold LR; rw [h.re a ha, h.ba a ha hav]] at k4
  unfold S_VE_bears TM
  rw [ix_div hJ]
  generalize dFf σ a j n.toInt = X at k1 k2 k3 k4 ⊢
  generalize dRr σ a j n.toInt = Y at k1 k2 k3 k4 ⊢
  clear eX eY eF eR e3 e1 hXb hYb
  generalize (σ.1 16 0 (j % 30)).toInt64 * n.toInt64 * (σ.1 10 a (j / 30)).toInt64 = y at k1 k2 k3 k4 ⊢
  generalize (σ.1 16 0 (j % 30)).toInt64 * n.toInt64 * (σ.1 9 a 6).toInt64 - y = x at k1 k2 k3 k4 ⊢
  by_cases p1 : lg_cmp x 0 ≤ 0
  · rw [if_pos p1]
    have q1 := k1.mp p1
    by_cases p2 : lg_cmp y 0 ≤ 0
    · rw [if_pos p2]
      have q2 := k2.mp p2
      exact ⟨fun z => by exfalso; omega, fun _ => rfl⟩
    · rw [if_neg p2]
      have q2 := mt k2.mpr p2
      by_cases p4 : S_VE_exceeds σ a (S_VE_rearMoment σ a + y) (σ.1 9 a 8) = 0
      · rw [if_pos p4]
        have q4 := k4.mp p4
        exact ⟨fun z => by exfalso; omega, fun _ => rfl⟩
      · rw [if_neg p4]
        have q4 := mt k4.mpr p4
        exact ⟨fun _ => rfl, fun z => by exfalso; omega⟩
  · rw [if_neg p1]
    have q1 := mt k1.mpr p1
    by_cases p3 : S_VE_exceeds σ a (S_VE_frontMoment σ a + x) (σ.1 9 a 7) = 0
    · rw [if_pos p3]
      have q3 := k3.mp p3
      by_cases p2 : lg_cmp y 0 ≤ 0
      · rw [if_pos p2]
        have q2 := k2.mp p2
        exact ⟨fun z => by exfalso; omega, fun _ => rfl⟩
      · rw [if_neg p2]
        have q2 := mt k2.mpr p2
        by_cases p4 : S_VE_exceeds σ a (S_VE_rearMoment σ a + y) (σ.1 9 a 8) = 0
        · rw [if_pos p4]
          have q4 := k4.mp p4
          exact ⟨fun z => by exfalso; omega, fun _ => rfl⟩
        · rw [if_neg p4]
          have q4 := mt k4.mpr p4
          exact ⟨fun _ => rfl, fun z => by exfalso; omega⟩
    · rw [if_neg p3]
      have q3 := mt k3.mpr p3
      have hz : TM σ a j n.toInt → True := fun _ => trivial
      refine ⟨fun _ => ?_, fun z => by exfalso; omega⟩
      repeat' split
      all_goals rfl
