set_option maxHeartbeats 4000000 in
theorem r_now {t : Nat} {σ : XS} (h : Rel t σ) (ht : t < 512) (d sh : Int32) : Rel (t + 1) (S_MO_now (S_LW_now σ d sh).2 d sh).2 ∧ S_MO_thrown (S_MO_now (S_LW_now σ d sh).2 d sh).2 = (S_LW_now σ d sh).1 := by
  have n0 : (0 : Int32).toInt = 0 := rfl
  have n2 : (2 : Int32).toInt = 2 := rfl
  have n9 : (9999 : Int32).toInt = 9999 := rfl
  have hd := h.dyr
  have hs := h.shr
  by_cases hA : inb d (σ.1 15 0 1) 9999
  · have h0 : inb d 0 9999 := inb_iff.mpr (by have := inb_iff.mp hA; omega)
    have hlt : ¬ d < σ.1 15 0 1 := Int32.not_lt.mpr hA.1
    by_cases hE : d = σ.1 15 0 1
    · by_cases hB : inb sh (σ.1 15 0 2) 2
      · have h2 : inb sh 0 2 := inb_iff.mpr (by have := inb_iff.mp hB; omega)
        have e1 : S_LW_now σ d sh = (0, (xuI (xuI σ 0 0 7 d) 0 0 8 sh)) := by
          simp only [S_LW_now, S_LC_now, h.dy, h.sh, rr_p _ hA, show (d = σ.1 15 0 1) = True from eq_true hE, rr_p _ hB, xbp_l, xbp_r, xca_l, xca_r, i1n0, if_true, if_false, ite_self]
        have e2 : S_MO_now (xuI (xuI σ 0 0 7 d) 0 0 8 sh) d sh = ((), (xuI (xuI (xuI (xuI (xuI σ 0 0 7 d) 0 0 8 sh) 15 0 0 0) 15 0 1 d) 15 0 2 sh)) := by
          simp only [S_MO_now, xu_o, xu_j, Nat.reduceEqDiff, not_false_eq_true, in_p _ h0, in_p _ h2, hlt, show (d = σ.1 15 0 1) = True from eq_true hE, show (σ.1 15 0 2 ≤ sh) = True from eq_true hB.1, thr_0, xbp_l, xbp_r, xca_l, xca_r, i1n0, if_true, if_false, ite_self]
        rw [e1]
        show Rel (t + 1) (S_MO_now (xuI (xuI σ 0 0 7 d) 0 0 8 sh) d sh).2 ∧ S_MO_thrown (S_MO_now (xuI (xuI σ 0 0 7 d) 0 0 8 sh) d sh).2 = 0
        rw [e2]
        refine ⟨?_, rfl⟩
        have i1 := inb_iff.mp h0
        have i2 := inb_iff.mp h2
        refine ⟨h.nv, h.nvr, rfl, rfl, ?dyr, ?shr, h.we, h.wer, h.le, h.st, h.str, h.ne, h.ner, h.co, h.cor, h.coz, h.kd, h.kdr, h.ba, h.bar, h.fr, h.frr, h.re, h.rer, h.pl, h.plr, h.se, h.ser, h.en, h.enz, h.enr, h.bt, h.btz, h.ck, h.ckz, h.gr, h.mo, h.rw, ⟨h.rwr.1, ?rwr⟩, h.to⟩
        case dyr =>
          show 0 ≤ d.toInt ∧ d.toInt ≤ 9999
          omega
        case shr =>
          show 0 ≤ sh.toInt ∧ sh.toInt ≤ 2
          omega
        case rwr =>
          have := h.rwr.2
          show (σ.1 15 0 18).toInt ≤ _
          omega
      · have hF : inb sh 0 2 → ¬ σ.1 15 0 2 ≤ sh := fun q z => hB ⟨z, q.2⟩
        have e1 : S_LW_now σ d sh = (1, σ) := by
          simp only [S_LW_now, S_LC_now, h.dy, h.sh, rr_p _ hA, show (d = σ.1 15 0 1) = True from eq_true hE, rr_n _ hB, xbp_l, xbp_r, xca_l, xca_r, i1n0, if_true, if_false, ite_self]
        have e2 : S_MO_now σ d sh = ((), xuI σ 15 0 0 1) := by
          by_cases h2 : inb sh 0 2
          · simp only [S_MO_now, in_p _ h0, in_p _ h2, hlt, show (d = σ.1 15 0 1) = True from eq_true hE, hF h2, thr_1, xbp_l, xbp_r, xca_l, xca_r, i1n0, if_true, if_false, ite_self]
          · simp only [S_MO_now, in_p _ h0, in_n _ h2, thr_1, xbp_l, xbp_r, xca_l, xca_r, i1n0, if_true, if_false, ite_self]
        rw [e1]
        show Rel (t + 1) (S_MO_now σ d sh).2 ∧ S_MO_thrown (S_MO_now σ d sh).2 = 1
        rw [e2]
        exact ⟨h.thr 1, rfl⟩
    · by_cases h2 : inb sh 0 2
      · have e1 : S_LW_now σ d sh = (0, (xuI (xuI σ 0 0 7 d) 0 0 8 sh)) := by
          simp only [S_LW_now, S_LC_now, h.dy, h.sh, rr_p _ hA, hE, rr_p _ h2, xbp_l, xbp_r, xca_l, xca_r, i1n0, if_true, if_false, ite_self]
        have e2 : S_MO_now (xuI (xuI σ 0 0 7 d) 0 0 8 sh) d sh = ((), (xuI (xuI (xuI (xuI (xuI σ 0 0 7 d) 0 0 8 sh) 15 0 0 0) 15 0 1 d) 15 0 2 sh)) := by
          simp only [S_MO_now, xu_o, xu_j, Nat.reduceEqDiff, not_false_eq_true, in_p _ h0, in_p _ h2, hlt, hE, thr_0, xbp_l, xbp_r, xca_l, xca_r, i1n0, if_true, if_false, ite_self]
        rw [e1]
        show Rel (t + 1) (S_MO_now (xuI (xuI σ 0 0 7 d) 0 0 8 sh) d sh).2 ∧ S_MO_thrown (S_MO_now (xuI (xuI σ 0 0 7 d) 0 0 8 sh) d sh).2 = 0
        rw [e2]
        refine ⟨?_, rfl⟩
        have i1 := inb_iff.mp h0
        have i2 := inb_iff.mp h2
        refine ⟨h.nv, h.nvr, rfl, rfl, ?dyr, ?shr, h.we, h.wer, h.le, h.st, h.str, h.ne, h.ner, h.co, h.cor, h.coz, h.kd, h.kdr, h.ba, h.bar, h.fr, h.frr, h.re, h.rer, h.pl, h.plr, h.se, h.ser, h.en, h.enz, h.enr, h.bt, h.btz, h.ck, h.ckz, h.gr, h.mo, h.rw, ⟨h.rwr.1, ?rwr⟩, h.to⟩
        case dyr =>
          show 0 ≤ d.toInt ∧ d.toInt ≤ 9999
          omega
        case shr =>
          show 0 ≤ sh.toInt ∧ sh.toInt ≤ 2
          omega
        case rwr =>
          have := h.rwr.2
          show (σ.1 15 0 18).toInt ≤ _
          omega
      · have e1 : S_LW_now σ d sh = (1, σ) := by
          simp only [S_LW_now, S_LC_now, h.dy, h.sh, rr_p _ hA, hE, rr_n _ h2, xbp_l, xbp_r, xca_l, xca_r, i1n0, if_true, if_false, ite_self]
        have e2 : S_MO_now σ d sh = ((), xuI σ 15 0 0 1) := by
          simp only [S_MO_now, in_p _ h0, in_n _ h2, thr_1, xbp_l, xbp_r, xca_l, xca_r, i1n0, if_true, if_false, ite_self]
        rw [e1]
        show Rel (t + 1) (S_MO_now σ d sh).2 ∧ S_MO_thrown (S_MO_now σ d sh).2 = 1
        rw [e2]
        exact ⟨h.thr 1, rfl⟩
  · have hF : inb d 0 9999 → d < σ.1 15 0 1 := fun q => Int32.not_le.mp (fun z => hA ⟨z, q.2⟩)
    have e1 : S_LW_now σ d sh = (1, σ) := by
      simp only [S_LW_now, S_LC_now, h.dy, h.sh, rr_n _ hA, xbp_l, xbp_r, xca_l, xca_r, i1n0, if_true, if_false, ite_self]
    have e2 : S_MO_now σ d sh = ((), xuI σ 15 0 0 1) := by
      by_cases h0 : inb d 0 9999
      · by_cases h2 : inb sh 0 2
        · simp only [S_MO_now, in_p _ h0, in_p _ h2, hF h0, thr_1, xbp_l, xbp_r, xca_l, xca_r, i1n0, if_true, if_false, ite_self]
        · simp only [S_MO_now, in_p _ h0, in_n _ h2, thr_1, xbp_l, xbp_r, xca_l, xca_r, i1n0, if_true, if_false, ite_self]
      · simp only [S_MO_now, in_n _ h0, thr_1, xbp_l, xbp_r, xca_l, xca_r, i1n0, if_true, if_false, ite_self]
    rw [e1]
    show Rel (t + 1) (S_MO_now σ d sh).2 ∧ S_MO_thrown (S_MO_now σ d sh).2 = 1
    rw [e2]
    exact ⟨h.thr 1, rfl⟩
