theorem i0n1 : ¬ (0 : Int32) = 1 := by decide
theorem vn0 : vp_nar .boolean 0 = 0 := rfl
theorem vn1 : vp_nar .boolean 1 = 1 := rfl
def xz (σ : XS) (a k : Nat) : XS := (fun r i j => if r = 26 ∧ i = 0 ∧ 30 * a ≤ j ∧ j < 30 * a + k then -1 else if r = 27 ∧ i = 0 ∧ 30 * a ≤ j ∧ j < 30 * a + k then 100 else σ.1 r i j, σ.2)
theorem xz_0 (σ : XS) (a : Nat) : xz σ a 0 = σ := by
  refine Prod.ext ?_ rfl
  funext r i j
  show (if r = 26 ∧ i = 0 ∧ 30 * a ≤ j ∧ j < 30 * a + 0 then -1 else if r = 27 ∧ i = 0 ∧ 30 * a ≤ j ∧ j < 30 * a + 0 then 100 else σ.1 r i j) = _
  rw [if_neg (by omega), if_neg (by omega)]
theorem xz_s (σ : XS) (a k : Nat) : xuI (xuI (xz σ a k) 26 0 (30 * a + k) (-1)) 27 0 (30 * a + k) 100 = xz σ a (k + 1) := by
  refine Prod.ext ?_ rfl
  funext r i j
  show (if r = 27 ∧ j = 30 * a + k ∧ i = 0 then 100 else if r = 26 ∧ j = 30 * a + k ∧ i = 0 then -1 else if r = 26 ∧ i = 0 ∧ 30 * a ≤ j ∧ j < 30 * a + k then -1 else if r = 27 ∧ i = 0 ∧ 30 * a ≤ j ∧ j < 30 * a + k then (100 : Int32) else σ.1 r i j) = (if r = 26 ∧ i = 0 ∧ 30 * a ≤ j ∧ j < 30 * a + (k + 1) then -1 else if r = 27 ∧ i = 0 ∧ 30 * a ≤ j ∧ j < 30 * a + (k + 1) then 100 else σ.1 r i j)
  repeat' split
  all_goals first | rfl | (exfalso; omega)
theorem lv_mo (σ : XS) {a : Nat} (ha : a < 16) (ea : σ.1 15 0 6 = nI a) : ∀ (n k : Nat), k + n = 31 → k < 31 → L_MO_vehicle n (xz σ a k) (nI k) = (nI a, xuI (xz σ a 30) 15 0 6 (nI (a + 1))) := by
  intro n
  induction n with
  | zero => intro k h1 h2; omega
  | succ n ih =>
    intro k h1 h2
    rw [L_MO_vehicle]
    by_cases c : (30 : Int32) ≤ nI k
    · rw [if_pos c]
      have hk : k = 30 := by
        rw [Int32.le_iff_toInt_le, nI_toInt (by omega)] at c
        have h30 : (30 : Int32).toInt = 30 := rfl
        omega
      subst hk
      have e1 : (xz σ a 30).1 15 0 6 = nI a := ea
      rw [e1, xu_s, nI_1]
      refine Prod.ext ?_ rfl
      show nI (a + 1) - nI 1 = nI a
      rw [pk_sub (by omega)]
      rfl
    · rw [if_neg c]
      have hk : k < 30 := x_klt (b := 30) rfl (by decide) (by omega) rfl c
      have e1 : (xz σ a k).1 15 0 6 = nI a := ea
      rw [xu_o _ _ _ _ _ (by decide), e1, ix_30 ha hk, xz_s, nI_1]
      exact ih (k + 1) (by omega) (by omega)
theorem n_m1 (a : Nat) : nI (a + 1) - 1 = nI a := by
  show nI (a + 1) - nI 1 = nI a
  rw [pk_sub (by omega)]
  rfl
set_option maxHeartbeats 4000000 in
theorem r_seal {t : Nat} {σ : XS} (h : Rel t σ) (ht : t < 512) (v cup w : Int32) (hw : nzb w) : Rel (t + 1) (S_MO_seal (S_LW_seal σ v cup w).2 v cup w).2 ∧ S_MO_thrown (S_MO_seal (S_LW_seal σ v cup w).2 v cup w).2 = (S_LW_seal σ v cup w).1 := by
  by_cases hv : isv σ v
  · obtain ⟨a, ha, hav, rfl⟩ := isv_of h hv
    by_cases hc : inb cup 0 7
    · obtain ⟨b, hb, rfl⟩ := inb_of (N := 7) rfl hc
      have es : σ.1 11 a b = σ.1 25 0 (8 * a + b) := h.se a ha b hb
      have hz := h.ser (8 * a + b) (by omega)
      rcases hw with rfl | rfl
      · rcases hz with hz | hz
        · have e1 : S_LW_seal σ (nI a) (nI b) 0 = (0, (xuI σ 11 a b 1)) := by
            simp only [ix_1 (show a < 2 ^ 31 by omega), ix_1 (show b < 2 ^ 31 by omega), S_LW_seal, S_LC_seal, kv_p h hv, rc_p _ hc, xbp_l, xbp_r, xca_l, xca_r, i1n0, if_true, if_false, ite_self, xu_s, xu_o, xu_j, xu_l, Nat.reduceEqDiff, not_false_eq_true, es, hz, i0n1, i1n0, vn0, vn1]
            try rfl
          have e2 : S_MO_seal (xuI σ 11 a b 1) (nI a) (nI b) 0 = ((), (xuI (xuI (xuI σ 11 a b 1) 15 0 0 0) 25 0 (8 * a + b) 1)) := by
            simp only [ix_1 (show a < 2 ^ 31 by omega), ix_1 (show b < 2 ^ 31 by omega), S_MO_seal, iv_p (σ := (xuI σ 11 a b 1)) h.nvr hv, ic_p _ hc, thr_0, xbp_l, xbp_r, xca_l, xca_r, i1n0, if_true, if_false, ite_self, xu_s, xu_o, xu_j, xu_l, Nat.reduceEqDiff, not_false_eq_true, ix_8 ha hb, hz, i0n1, i1n0, vn0, vn1]
            try rfl
          rw [e1]
          show Rel (t + 1) (S_MO_seal (xuI σ 11 a b 1) (nI a) (nI b) 0).2 ∧ S_MO_thrown (S_MO_seal (xuI σ 11 a b 1) (nI a) (nI b) 0).2 = 0
          rw [e2]
          refine ⟨?_, rfl⟩
          refine ⟨h.nv, h.nvr, h.dy, h.sh, h.dyr, h.shr, h.we, h.wer, h.le, h.st, h.str, h.ne, h.ner, h.co, h.cor, h.coz, h.kd, h.kdr, h.ba, h.bar, h.fr, h.frr, h.re, h.rer, h.pl, h.plr, ?se, ?ser, h.en, h.enz, h.enr, h.bt, h.btz, h.ck, h.ckz, h.gr, h.mo, h.rw, ⟨h.rwr.1, ?rwr⟩, h.to⟩
          case se =>
            intro v hv j hj
            by_cases q : v = a ∧ j = b
            · obtain ⟨rfl, rfl⟩ := q
              simp [xuI, xuL]
            · have q2 : ¬ (8 * v + j = 8 * a + (b)) := by omega
              have q3 : ¬ (j = b ∧ v = a) := fun z => q ⟨z.2, z.1⟩
              simpa [xuI, xuL, q2, q3] using h.se v hv j hj
          case ser =>
            intro v hv
            by_cases q : v = 8 * a + b
            · simp only [xuI, q]
              simp [nzb]
            · simpa [xuI, q] using h.ser v hv
          case rwr =>
            have := h.rwr.2
            show (σ.1 15 0 18).toInt ≤ _
            omega
        · have e1 : S_LW_seal σ (nI a) (nI b) 0 = (2, σ) := by
            simp only [ix_1 (show a < 2 ^ 31 by omega), ix_1 (show b < 2 ^ 31 by omega), S_LW_seal, S_LC_seal, kv_p h hv, rc_p _ hc, xbp_l, xbp_r, xca_l, xca_r, i1n0, if_true, if_false, ite_self, es, hz, i0n1, i1n0, show ("java/lang/IllegalStateException" = "java/lang/IllegalArgumentException") = False from ex_ca]
            try rfl
          have e2 : S_MO_seal σ (nI a) (nI b) 0 = ((), xuI σ 15 0 0 2) := by
            simp only [ix_1 (show a < 2 ^ 31 by omega), ix_1 (show b < 2 ^ 31 by omega), S_MO_seal, iv_p (σ := σ) h.nvr hv, ic_p _ hc, thr_0, xbp_l, xbp_r, xca_l, xca_r, i1n0, if_true, if_false, ite_self, ix_8 ha hb, hz, i0n1, i1n0, thr_2]
            try rfl
          rw [e1]
          show Rel (t + 1) (S_MO_seal σ (nI a) (nI b) 0).2 ∧ S_MO_thrown (S_MO_seal σ (nI a) (nI b) 0).2 = 2
          rw [e2]
          exact ⟨h.thr 2, rfl⟩
      · rcases hz with hz | hz
        · have e1 : S_LW_seal σ (nI a) (nI b) 1 = (2, σ) := by
            simp only [ix_1 (show a < 2 ^ 31 by omega), ix_1 (show b < 2 ^ 31 by omega), S_LW_seal, S_LC_seal, kv_p h hv, rc_p _ hc, xbp_l, xbp_r, xca_l, xca_r, i1n0, if_true, if_false, ite_self, es, hz, i0n1, i1n0, show ("java/lang/IllegalStateException" = "java/lang/IllegalArgumentException") = False from ex_ca]
            try rfl
          have e2 : S_MO_seal σ (nI a) (nI b) 1 = ((), xuI σ 15 0 0 2) := by
            simp only [ix_1 (show a < 2 ^ 31 by omega), ix_1 (show b < 2 ^ 31 by omega), S_MO_seal, iv_p (σ := σ) h.nvr hv, ic_p _ hc, thr_0, xbp_l, xbp_r, xca_l, xca_r, i1n0, if_true, if_false, ite_self, ix_8 ha hb, hz, i0n1, i1n0, thr_2]
            try rfl
          rw [e1]
          show Rel (t + 1) (S_MO_seal σ (nI a) (nI b) 1).2 ∧ S_MO_thrown (S_MO_seal σ (nI a) (nI b) 1).2 = 2
          rw [e2]
          exact ⟨h.thr 2, rfl⟩
        · have e1 : S_LW_seal σ (nI a) (nI b) 1 = (0, (xuI σ 11 a b 0)) := by
            simp only [ix_1 (show a < 2 ^ 31 by omega), ix_1 (show b < 2 ^ 31 by omega), S_LW_seal, S_LC_seal, kv_p h hv, rc_p _ hc, xbp_l, xbp_r, xca_l, xca_r, i1n0, if_true, if_false, ite_self, xu_s, xu_o, xu_j, xu_l, Nat.reduceEqDiff, not_false_eq_true, es, hz, i0n1, i1n0, vn0, vn1]
            try rfl
          have e2 : S_MO_seal (xuI σ 11 a b 0) (nI a) (nI b) 1 = ((), (xuI (xuI (xuI σ 11 a b 0) 15 0 0 0) 25 0 (8 * a + b) 0)) := by
            simp only [ix_1 (show a < 2 ^ 31 by omega), ix_1 (show b < 2 ^ 31 by omega), S_MO_seal, iv_p (σ := (xuI σ 11 a b 0)) h.nvr hv, ic_p _ hc, thr_0, xbp_l, xbp_r, xca_l, xca_r, i1n0, if_true, if_false, ite_self, xu_s, xu_o, xu_j, xu_l, Nat.reduceEqDiff, not_false_eq_true, ix_8 ha hb, hz, i0n1, i1n0, vn0, vn1]
            try rfl
          rw [e1]
          show Rel (t + 1) (S_MO_seal (xuI σ 11 a b 0) (nI a) (nI b) 1).2 ∧ S_MO_thrown (S_MO_seal (xuI σ 11 a b 0) (nI a) (nI b) 1).2 = 0
          rw [e2]
          refine ⟨?_, rfl⟩
          refine ⟨h.nv, h.nvr, h.dy, h.sh, h.dyr, h.shr, h.we, h.wer, h.le, h.st, h.str, h.ne, h.ner, h.co, h.cor, h.coz, h.kd, h.kdr, h.ba, h.bar, h.fr, h.frr, h.re, h.rer, h.pl, h.plr, ?se, ?ser, h.en, h.enz, h.enr, h.bt, h.btz, h.ck, h.ckz, h.gr, h.mo, h.rw, ⟨h.rwr.1, ?rwr⟩, h.to⟩
          case se =>
            intro v hv j hj
            by_cases q : v = a ∧ j = b
            · obtain ⟨rfl, rfl⟩ := q
              simp [xuI, xuL]
            · have q2 : ¬ (8 * v + j = 8 * a + (b)) := by omega
              have q3 : ¬ (j = b ∧ v = a) := fun z => q ⟨z.2, z.1⟩
              simpa [xuI, xuL, q2, q3] using h.se v hv j hj
          case ser =>
            intro v hv
            by_cases q : v = 8 * a + b
            · simp only [xuI, q]
              simp [nzb]
            · simpa [xuI, q] using h.ser v hv
          case rwr =>
            have := h.rwr.2
            show (σ.1 15 0 18).toInt ≤ _
            omega
    · have e1 : S_LW_seal σ (nI a) cup w = (1, σ) := by
        simp only [ix_1 (show a < 2 ^ 31 by omega), S_LW_seal, S_LC_seal, kv_p h hv, rc_n _ hc, ex_aa, xbp_l, xbp_r, xca_l, xca_r, i1n0, if_true, if_false, ite_self]
        try rfl
      have e2 : S_MO_seal σ (nI a) cup w = ((), xuI σ 15 0 0 1) := by
        simp only [ix_1 (show a < 2 ^ 31 by omega), S_MO_seal, iv_p (σ := σ) h.nvr hv, ic_n _ hc, thr_1, xbp_l, xbp_r, xca_l, xca_r, i1n0, if_true, if_false, ite_self]
        try rfl
      rw [e1]
      show Rel (t + 1) (S_MO_seal σ (nI a) cup w).2 ∧ S_MO_thrown (S_MO_seal σ (nI a) cup w).2 = 1
      rw [e2]
      exact ⟨h.thr 1, rfl⟩
  · have e1 : S_LW_seal σ v cup w = (1, σ) := by
      simp only [S_LW_seal, S_LC_seal, kv_n h hv, ex_aa, xbp_l, xbp_r, xca_l, xca_r, i1n0, if_true, if_false, ite_self]
      try rfl
    have e2 : S_MO_seal σ v cup w = ((), xuI σ 15 0 0 1) := by
      simp only [S_MO_seal, iv_n (σ := σ) h.nvr hv, thr_1, xbp_l, xbp_r, xca_l, xca_r, i1n0, if_true, if_false, ite_self]
      try rfl
    rw [e1]
    show Rel (t + 1) (S_MO_seal σ v cup w).2 ∧ S_MO_thrown (S_MO_seal σ v cup w).2 = 1
    rw [e2]
    exact ⟨h.thr 1, rfl⟩

set_option maxHeartbeats 4000000 in
theorem r_vehicle {t : Nat} {σ : XS} (h : Rel t σ) (ht : t < 512) (k0 wb fr re : Int32) : Rel (t + 1) (S_MO_vehicle (S_LW_vehicle σ k0 wb fr re).2 k0 wb fr re).2 ∧ S_MO_thrown (S_MO_vehicle (S_LW_vehicle σ k0 wb fr re).2 k0 wb fr re).2 = (S_LW_vehicle σ k0 wb fr re).1 ∧ ((S_LW_vehicle σ k0 wb fr re).1 = 0 → (S_MO_vehicle (S_LW_vehicle σ k0 wb fr re).2 k0 wb fr re).2.2 31 0 0 = ((S_MO_vehicle (S_LW_vehicle σ k0 wb fr re).2 k0 wb fr re).1).toInt64) := by
  by_cases hkb : inb k0 0 5
  · obtain ⟨k, hk, rfl⟩ := inb_of (N := 5) rfl hkb
    by_cases h1 : inb wb 1000 8000
    · by_cases h2 : inb fr 0 20000000
      · by_cases h3 : inb re 0 20000000
        · have hV := h.nvr
          obtain ⟨a, ha31, ea⟩ := nI_of (x := σ.1 15 0 6) (by rw [Int32.lt_iff_toInt_lt]; have n0 : (0 : Int32).toInt = 0 := rfl; omega)
          by_cases hr : a < 16
          · have ha := hr
            have e7 : L_MO_vehicle 31 (xuI (xuI (xuI (xuI (xuI (xuI (xuL (xuI (xuI (xuI (xuI (xuI σ 9 a 5 (nI k)) 9 a 6 wb) 9 a 7 fr) 9 a 8 re) 0 0 6 (nI (a + 1))) 31 0 0 (nI a).toInt64) 15 0 0 0) 19 0 a (nI k)) 20 0 a wb) 21 0 a fr) 22 0 a re) 23 0 a (-1)) 0 = (nI a, (xuI (xz (xuI (xuI (xuI (xuI (xuI (xuI (xuL (xuI (xuI (xuI (xuI (xuI σ 9 a 5 (nI k)) 9 a 6 wb) 9 a 7 fr) 9 a 8 re) 0 0 6 (nI (a + 1))) 31 0 0 (nI a).toInt64) 15 0 0 0) 19 0 a (nI k)) 20 0 a wb) 21 0 a fr) 22 0 a re) 23 0 a (-1)) a 30) 15 0 6 (nI (a + 1)))) := by
              have e8 := lv_mo (xuI (xuI (xuI (xuI (xuI (xuI (xuL (xuI (xuI (xuI (xuI (xuI σ 9 a 5 (nI k)) 9 a 6 wb) 9 a 7 fr) 9 a 8 re) 0 0 6 (nI (a + 1))) 31 0 0 (nI a).toInt64) 15 0 0 0) 19 0 a (nI k)) 20 0 a wb) 21 0 a fr) 22 0 a re) 23 0 a (-1)) ha ea 31 0 rfl (by decide)
              rw [xz_0] at e8
              exact e8
            have e1 : S_LW_vehicle σ (nI k) wb fr re = (0, (xuL (xuI (xuI (xuI (xuI (xuI σ 9 a 5 (nI k)) 9 a 6 wb) 9 a 7 fr) 9 a 8 re) 0 0 6 (nI (a + 1))) 31 0 0 (nI a).toInt64)) := by
              simp only [S_LW_vehicle, S_LC_vehicle, S_LC_requireLimits, rk_p _ hkb, rr_p _ h1, rr_p _ h2, rr_p _ h3, show (σ.1 0 0 6 < 16) = True from eq_true (by rw [h.nv, ea, Int32.lt_iff_toInt_lt, nI_toInt ha31]; have n16 : (16 : Int32).toInt = 16 := rfl; omega), xbp_l, xbp_r, xca_l, xca_r, i1n0, if_true, if_false, ite_self, xu_s, xu_o, xu_j, xu_l, Nat.reduceEqDiff, not_false_eq_true, h.nv, ea, show (nI a < 16) = True from eq_true (by rw [Int32.lt_iff_toInt_lt, nI_toInt ha31]; have n16 : (16 : Int32).toInt = 16 := rfl; omega), nI_1, n_m1 a, ix_1 (show a < 2 ^ 31 by omega)]
              try rfl
            have e2 : S_MO_vehicle (xuL (xuI (xuI (xuI (xuI (xuI σ 9 a 5 (nI k)) 9 a 6 wb) 9 a 7 fr) 9 a 8 re) 0 0 6 (nI (a + 1))) 31 0 0 (nI a).toInt64) (nI k) wb fr re = (nI a, (xuI (xz (xuI (xuI (xuI (xuI (xuI (xuI (xuL (xuI (xuI (xuI (xuI (xuI σ 9 a 5 (nI k)) 9 a 6 wb) 9 a 7 fr) 9 a 8 re) 0 0 6 (nI (a + 1))) 31 0 0 (nI a).toInt64) 15 0 0 0) 19 0 a (nI k)) 20 0 a wb) 21 0 a fr) 22 0 a re) 23 0 a (-1)) a 30) 15 0 6 (nI (a + 1)))) := by
              simp only [S_MO_vehicle, in_p _ hkb, in_p _ h1, il_p _ h2, il_p _ h3, show ((xuL (xuI (xuI (xuI (xuI (xuI σ 9 a 5 (nI k)) 9 a 6 wb) 9 a 7 fr) 9 a 8 re) 0 0 6 (nI (a + 1))) 31 0 0 (nI a).toInt64).1 15 0 6 = 16) = False from eq_false (by show ¬ σ.1 15 0 6 = 16; rw [ea]; intro q; have q := congrArg Int32.toInt q; rw [nI_toInt ha31] at q; have n16 : (16 : Int32).toInt = 16 := rfl; omega), thr_0, xbp_l, xbp_r, xca_l, xca_r, i1n0, if_true, if_false, ite_self, xu_s, xu_o, xu_j, xu_l, Nat.reduceEqDiff, not_false_eq_true, ea, show (nI a = 16) = False from eq_false (by intro q; have q := congrArg Int32.toInt q; rw [nI_toInt ha31] at q; have n16 : (16 : Int32).toInt = 16 := rfl; omega), ix_1 (show a < 2 ^ 31 by omega), e7]
              try rfl
            rw [e1]
            show Rel (t + 1) (S_MO_vehicle (xuL (xuI (xuI (xuI (xuI (xuI σ 9 a 5 (nI k)) 9 a 6 wb) 9 a 7 fr) 9 a 8 re) 0 0 6 (nI (a + 1))) 31 0 0 (nI a).toInt64) (nI k) wb fr re).2 ∧ S_MO_thrown (S_MO_vehicle (xuL (xuI (xuI (xuI (xuI (xuI σ 9 a 5 (nI k)) 9 a 6 wb) 9 a 7 fr) 9 a 8 re) 0 0 6 (nI (a + 1))) 31 0 0 (nI a).toInt64) (nI k) wb fr re).2 = 0 ∧ ((0 : Int32) = 0 → _)
            rw [e2]
            have h1 := inb_iff.mp h1
            have h2 := inb_iff.mp h2
            have h3 := inb_iff.mp h3
            have n0 : (0 : Int32).toInt = 0 := rfl
            have n1 : (20000000 : Int32).toInt = 20000000 := rfl
            have n2 : (1000 : Int32).toInt = 1000 := rfl
            have n3 : (8000 : Int32).toInt = 8000 := rfl
            have eV : (σ.1 15 0 6).toInt = a := by rw [ea, nI_toInt (by omega)]
            refine ⟨?_, rfl, fun _ => rfl⟩
            refine ⟨rfl, ?nvr, h.dy, h.sh, h.dyr, h.shr, h.we, h.wer, h.le, h.st, h.str, h.ne, h.ner, h.co, h.cor, ?coz, ?kd, ?kdr, ?ba, ?bar, ?fr, ?frr, ?re, ?rer, h.pl, h.plr, h.se, h.ser, ?en, ?enz, h.enr, ?bt, ?btz, ?ck, ?ckz, h.gr, h.mo, h.rw, ⟨h.rwr.1, ?rwr⟩, h.to⟩
            case nvr =>
              show 0 ≤ (nI (a + 1)).toInt ∧ (nI (a + 1)).toInt ≤ 16
              rw [nI_toInt (by omega)]
              omega
            case coz =>
              intro j hj hl
              have hl : 240 * (nI (a + 1)).toInt ≤ (j : Int) := hl
              rw [nI_toInt (by omega)] at hl
              exact h.coz j hj (by rw [eV]; omega)
            case kd =>
              intro v hv
              by_cases q : v = a
              · simp [xz, xuI, xuL, q]
              · simpa [xz, xuI, xuL, q] using h.kd v hv
            case kdr =>
              intro v hv
              by_cases q : v = a
              · simp only [xz, xuI, xuL, q]
                simp
                exact vp_in_nI hk (by decide)
              · simpa [xz, xuI, xuL, q] using h.kdr v hv
            case ba =>
              intro v hv hl
              have hl : (v : Int) < (nI (a + 1)).toInt := hl
              rw [nI_toInt (by omega)] at hl
              by_cases q : v = a
              · simp [xz, xuI, xuL, q]
              · simpa [xz, xuI, xuL, q] using h.ba v hv (by rw [eV]; omega)
            case bar =>
              intro v hv hl
              have hl : (v : Int) < (nI (a + 1)).toInt := hl
              rw [nI_toInt (by omega)] at hl
              by_cases q : v = a
              · simp only [xz, xuI, xuL, q]
                simp
                omega
              · simpa [xz, xuI, xuL, q] using h.bar v hv (by rw [eV]; omega)
            case fr =>
              intro v hv
              by_cases q : v = a
              · simp [xz, xuI, xuL, q]
              · simpa [xz, xuI, xuL, q] using h.fr v hv
            case frr =>
              intro v hv
              by_cases q : v = a
              · simp only [xz, xuI, xuL, q]
                simp
                omega
              · simpa [xz, xuI, xuL, q] using h.frr v hv
            case re =>
              intro v hv
              by_cases q : v = a
              · simp [xz, xuI, xuL, q]
              · simpa [xz, xuI, xuL, q] using h.re v hv
            case rer =>
              intro v hv
              by_cases q : v = a
              · simp only [xz, xuI, xuL, q]
                simp
                omega
              · simpa [xz, xuI, xuL, q] using h.rer v hv
            case en =>
              intro v hv hl j hj
              have hl : (v : Int) < (nI (a + 1)).toInt := hl
              rw [nI_toInt (by omega)] at hl
              by_cases q : v = a
              · subst q
                have e4 := h.enz v hv (by rw [eV]; omega) j hj
                have e5 : 30 * v ≤ 30 * v + j ∧ 30 * v + j < 30 * v + 30 := by omega
                simpa [xz, xuI, xuL, e5] using e4
              · have e5 : ¬ (30 * a ≤ 30 * v + j ∧ 30 * v + j < 30 * a + 30) := by omega
                simpa [xz, xuI, xuL, e5] using h.en v hv (by rw [eV]; omega) j hj
            case enz =>
              intro v hv hl j hj
              have hl : (nI (a + 1)).toInt ≤ (v : Int) := hl
              rw [nI_toInt (by omega)] at hl
              have q : ¬ v = a := by omega
              have hl2 : (σ.1 15 0 6).toInt ≤ v := by rw [ea, nI_toInt (by omega)]; omega
              exact h.enz v hv hl2 j hj
            case bt =>
              intro v hv hl j hj
              have hl : (v : Int) < (nI (a + 1)).toInt := hl
              rw [nI_toInt (by omega)] at hl
              by_cases q : v = a
              · subst q
                have e4 := h.btz v hv (by rw [eV]; omega) j hj
                have e5 : 30 * v ≤ 30 * v + j ∧ 30 * v + j < 30 * v + 30 := by omega
                simpa [xz, xuI, xuL, e5] using e4
              · have e5 : ¬ (30 * a ≤ 30 * v + j ∧ 30 * v + j < 30 * a + 30) := by omega
                simpa [xz, xuI, xuL, e5] using h.bt v hv (by rw [eV]; omega) j hj
            case btz =>
              intro v hv hl j hj
              have hl : (nI (a + 1)).toInt ≤ (v : Int) := hl
              rw [nI_toInt (by omega)] at hl
              have q : ¬ v = a := by omega
              have hl2 : (σ.1 15 0 6).toInt ≤ v := by rw [ea, nI_toInt (by omega)]; omega
              exact h.btz v hv hl2 j hj
            case ck =>
              intro v hv hl
              have hl : (v : Int) < (nI (a + 1)).toInt := hl
              rw [nI_toInt (by omega)] at hl
              by_cases q : v = a
              · subst q
                have e4 := h.ckz v hv (by rw [eV]; omega)
                refine Or.inl ?_
                simpa [xz, xuI, xuL] using e4
              · simpa [xz, xuI, xuL, q] using h.ck v hv (by rw [eV]; omega)
            case ckz =>
              intro v hv hl
              have hl : (nI (a + 1)).toInt ≤ (v : Int) := hl
              rw [nI_toInt (by omega)] at hl
              have q : ¬ v = a := by omega
              have hl2 : (σ.1 15 0 6).toInt ≤ v := by rw [ea, nI_toInt (by omega)]; omega
              exact h.ckz v hv hl2
            case rwr =>
              have := h.rwr.2
              show (σ.1 15 0 18).toInt ≤ _
              omega
          · have e1 : S_LW_vehicle σ (nI k) wb fr re = (3, σ) := by
              simp only [S_LW_vehicle, S_LC_vehicle, S_LC_requireLimits, rk_p _ hkb, rr_p _ h1, rr_p _ h2, rr_p _ h3, show (σ.1 0 0 6 < 16) = False from eq_false (by rw [h.nv, ea, Int32.lt_iff_toInt_lt, nI_toInt ha31]; have n16 : (16 : Int32).toInt = 16 := rfl; omega), show ("java/lang/UnsupportedOperationException" = "java/lang/IllegalArgumentException") = False from ex_da, show ("java/lang/UnsupportedOperationException" = "java/lang/IndexOutOfBoundsException") = False from ex_db, xbp_l, xbp_r, xca_l, xca_r, i1n0, if_true, if_false, ite_self]
              try rfl
            have e2 : S_MO_vehicle σ (nI k) wb fr re = (0, xuI σ 15 0 0 3) := by
              simp only [S_MO_vehicle, in_p _ hkb, in_p _ h1, il_p _ h2, il_p _ h3, show (σ.1 15 0 6 = 16) = True from eq_true (by rw [ea, nI_toInt ha31] at hV; rw [ea, show a = 16 by omega]; rfl), thr_3, xbp_l, xbp_r, xca_l, xca_r, i1n0, if_true, if_false, ite_self]
              try rfl
            rw [e1]
            show Rel (t + 1) (S_MO_vehicle σ (nI k) wb fr re).2 ∧ S_MO_thrown (S_MO_vehicle σ (nI k) wb fr re).2 = 3 ∧ ((3 : Int32) = 0 → _)
            rw [e2]
            exact ⟨h.thr 3, rfl, fun q => absurd q (by decide)⟩
        · have e1 : S_LW_vehicle σ (nI k) wb fr re = (2, σ) := by
            simp only [S_LW_vehicle, S_LC_vehicle, S_LC_requireLimits, rk_p _ hkb, rr_p _ h1, rr_p _ h2, rr_n _ h3, ex_ba, ex_bb, xbp_l, xbp_r, xca_l, xca_r, i1n0, if_true, if_false, ite_self]
            try rfl
          have e2 : S_MO_vehicle σ (nI k) wb fr re = (0, xuI σ 15 0 0 2) := by
            simp only [S_MO_vehicle, in_p _ hkb, in_p _ h1, il_p _ h2, il_n _ h3, thr_2, xbp_l, xbp_r, xca_l, xca_r, i1n0, if_true, if_false, ite_self]
            try rfl
          rw [e1]
          show Rel (t + 1) (S_MO_vehicle σ (nI k) wb fr re).2 ∧ S_MO_thrown (S_MO_vehicle σ (nI k) wb fr re).2 = 2 ∧ ((2 : Int32) = 0 → _)
          rw [e2]
          exact ⟨h.thr 2, rfl, fun q => absurd q (by decide)⟩
      · have e1 : S_LW_vehicle σ (nI k) wb fr re = (2, σ) := by
          simp only [S_LW_vehicle, S_LC_vehicle, S_LC_requireLimits, rk_p _ hkb, rr_p _ h1, rr_n _ h2, ex_ba, ex_bb, xbp_l, xbp_r, xca_l, xca_r, i1n0, if_true, if_false, ite_self]
          try rfl
        have e2 : S_MO_vehicle σ (nI k) wb fr re = (0, xuI σ 15 0 0 2) := by
          simp only [S_MO_vehicle, in_p _ hkb, in_p _ h1, il_n _ h2, thr_2, xbp_l, xbp_r, xca_l, xca_r, i1n0, if_true, if_false, ite_self]
          try rfl
        rw [e1]
        show Rel (t + 1) (S_MO_vehicle σ (nI k) wb fr re).2 ∧ S_MO_thrown (S_MO_vehicle σ (nI k) wb fr re).2 = 2 ∧ ((2 : Int32) = 0 → _)
        rw [e2]
        exact ⟨h.thr 2, rfl, fun q => absurd q (by decide)⟩
    · have e1 : S_LW_vehicle σ (nI k) wb fr re = (2, σ) := by
        simp only [S_LW_vehicle, S_LC_vehicle, S_LC_requireLimits, rk_p _ hkb, rr_n _ h1, ex_ba, ex_bb, xbp_l, xbp_r, xca_l, xca_r, i1n0, if_true, if_false, ite_self]
        try rfl
      have e2 : S_MO_vehicle σ (nI k) wb fr re = (0, xuI σ 15 0 0 2) := by
        simp only [S_MO_vehicle, in_p _ hkb, in_n _ h1, thr_2, xbp_l, xbp_r, xca_l, xca_r, i1n0, if_true, if_false, ite_self]
        try rfl
      rw [e1]
      show Rel (t + 1) (S_MO_vehicle σ (nI k) wb fr re).2 ∧ S_MO_thrown (S_MO_vehicle σ (nI k) wb fr re).2 = 2 ∧ ((2 : Int32) = 0 → _)
      rw [e2]
      exact ⟨h.thr 2, rfl, fun q => absurd q (by decide)⟩
  · have e1 : S_LW_vehicle σ k0 wb fr re = (1, σ) := by
      simp only [S_LW_vehicle, S_LC_vehicle, S_LC_requireLimits, rk_n _ hkb, ex_aa, xbp_l, xbp_r, xca_l, xca_r, i1n0, if_true, if_false, ite_self]
      try rfl
    have e2 : S_MO_vehicle σ k0 wb fr re = (0, xuI σ 15 0 0 1) := by
      simp only [S_MO_vehicle, in_n _ hkb, thr_1, xbp_l, xbp_r, xca_l, xca_r, i1n0, if_true, if_false, ite_self]
      try rfl
    rw [e1]
    show Rel (t + 1) (S_MO_vehicle σ k0 wb fr re).2 ∧ S_MO_thrown (S_MO_vehicle σ k0 wb fr re).2 = 1 ∧ ((1 : Int32) = 0 → _)
    rw [e2]
    exact ⟨h.thr 1, rfl, fun q => absurd q (by decide)⟩
