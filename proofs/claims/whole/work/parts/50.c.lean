set_option maxHeartbeats 4000000 in
theorem r_limits {t : Nat} {σ : XS} (h : Rel t σ) (ht : t < 512) (v fr re : Int32) : Rel (t + 1) (S_MO_limits (S_LW_limits σ v fr re).2 v fr re).2 ∧ S_MO_thrown (S_MO_limits (S_LW_limits σ v fr re).2 v fr re).2 = (S_LW_limits σ v fr re).1 := by
  by_cases hv : isv σ v
  · obtain ⟨a, ha, hav, rfl⟩ := isv_of h hv
    by_cases h1 : inb fr 0 20000000
    · by_cases h2 : inb re 0 20000000
      · have e1 : S_LW_limits σ (nI a) fr re = (0, (xuI (xuI σ 9 a 7 fr) 9 a 8 re)) := by
          simp only [ix_1 (show a < 2 ^ 31 by omega), S_LW_limits, S_LC_limits, S_LC_requireLimits, kv_p h hv, rr_p _ h1, rr_p _ h2, xbp_l, xbp_r, xca_l, xca_r, i1n0, if_true, if_false, ite_self, xu_s, xu_o, xu_j, xu_l, Nat.reduceEqDiff, not_false_eq_true]
          try rfl
        have e2 : S_MO_limits (xuI (xuI σ 9 a 7 fr) 9 a 8 re) (nI a) fr re = ((), (xuI (xuI (xuI (xuI (xuI σ 9 a 7 fr) 9 a 8 re) 15 0 0 0) 21 0 a fr) 22 0 a re)) := by
          simp only [ix_1 (show a < 2 ^ 31 by omega), S_MO_limits, iv_p (σ := (xuI (xuI σ 9 a 7 fr) 9 a 8 re)) h.nvr hv, il_p _ h1, il_p _ h2, thr_0, xbp_l, xbp_r, xca_l, xca_r, i1n0, if_true, if_false, ite_self, xu_s, xu_o, xu_j, xu_l, Nat.reduceEqDiff, not_false_eq_true]
          try rfl
        rw [e1]
        show Rel (t + 1) (S_MO_limits (xuI (xuI σ 9 a 7 fr) 9 a 8 re) (nI a) fr re).2 ∧ S_MO_thrown (S_MO_limits (xuI (xuI σ 9 a 7 fr) 9 a 8 re) (nI a) fr re).2 = 0
        rw [e2]
        refine ⟨?_, rfl⟩
        have h1 := inb_iff.mp h1
        have h2 := inb_iff.mp h2
        have n0 : (0 : Int32).toInt = 0 := rfl
        have n1 : (20000000 : Int32).toInt = 20000000 := rfl
        refine ⟨h.nv, h.nvr, h.dy, h.sh, h.dyr, h.shr, h.we, h.wer, h.le, h.st, h.str, h.ne, h.ner, h.co, h.cor, h.coz, h.kd, h.kdr, h.ba, h.bar, ?fr, ?frr, ?re, ?rer, h.pl, h.plr, h.se, h.ser, h.en, h.enz, h.enr, h.bt, h.btz, h.ck, h.ckz, h.gr, h.mo, h.rw, ⟨h.rwr.1, ?rwr⟩, h.to⟩
        case fr =>
          intro v hv
          by_cases q : v = a
          · simp [xuI, q]
          · simpa [xuI, q] using h.fr v hv
        case frr =>
          intro v hv
          by_cases q : v = a
          · simp only [xuI, q]
            simp
            omega
          · simpa [xuI, q] using h.frr v hv
        case re =>
          intro v hv
          by_cases q : v = a
          · simp [xuI, q]
          · simpa [xuI, q] using h.re v hv
        case rer =>
          intro v hv
          by_cases q : v = a
          · simp only [xuI, q]
            simp
            omega
          · simpa [xuI, q] using h.rer v hv
        case rwr =>
          have := h.rwr.2
          show (σ.1 15 0 18).toInt ≤ _
          omega
      · have e1 : S_LW_limits σ (nI a) fr re = (2, σ) := by
          simp only [ix_1 (show a < 2 ^ 31 by omega), S_LW_limits, S_LC_limits, S_LC_requireLimits, kv_p h hv, rr_p _ h1, rr_n _ h2, ex_ba, ex_bb, xbp_l, xbp_r, xca_l, xca_r, i1n0, if_true, if_false, ite_self]
          try rfl
        have e2 : S_MO_limits σ (nI a) fr re = ((), xuI σ 15 0 0 2) := by
          simp only [ix_1 (show a < 2 ^ 31 by omega), S_MO_limits, iv_p (σ := σ) h.nvr hv, il_p _ h1, il_n _ h2, thr_2, xbp_l, xbp_r, xca_l, xca_r, i1n0, if_true, if_false, ite_self]
          try rfl
        rw [e1]
        show Rel (t + 1) (S_MO_limits σ (nI a) fr re).2 ∧ S_MO_thrown (S_MO_limits σ (nI a) fr re).2 = 2
        rw [e2]
        exact ⟨h.thr 2, rfl⟩
    · have e1 : S_LW_limits σ (nI a) fr re = (2, σ) := by
        simp only [ix_1 (show a < 2 ^ 31 by omega), S_LW_limits, S_LC_limits, S_LC_requireLimits, kv_p h hv, rr_n _ h1, ex_ba, ex_bb, xbp_l, xbp_r, xca_l, xca_r, i1n0, if_true, if_false, ite_self]
        try rfl
      have e2 : S_MO_limits σ (nI a) fr re = ((), xuI σ 15 0 0 2) := by
        simp only [ix_1 (show a < 2 ^ 31 by omega), S_MO_limits, iv_p (σ := σ) h.nvr hv, il_n _ h1, thr_2, xbp_l, xbp_r, xca_l, xca_r, i1n0, if_true, if_false, ite_self]
        try rfl
      rw [e1]
      show Rel (t + 1) (S_MO_limits σ (nI a) fr re).2 ∧ S_MO_thrown (S_MO_limits σ (nI a) fr re).2 = 2
      rw [e2]
      exact ⟨h.thr 2, rfl⟩
  · have e1 : S_LW_limits σ v fr re = (1, σ) := by
      simp only [S_LW_limits, S_LC_limits, S_LC_requireLimits, kv_n h hv, ex_aa, xbp_l, xbp_r, xca_l, xca_r, i1n0, if_true, if_false, ite_self]
      try rfl
    have e2 : S_MO_limits σ v fr re = ((), xuI σ 15 0 0 1) := by
      simp only [S_MO_limits, iv_n (σ := σ) h.nvr hv, thr_1, xbp_l, xbp_r, xca_l, xca_r, i1n0, if_true, if_false, ite_self]
      try rfl
    rw [e1]
    show Rel (t + 1) (S_MO_limits σ v fr re).2 ∧ S_MO_thrown (S_MO_limits σ v fr re).2 = 1
    rw [e2]
    exact ⟨h.thr 1, rfl⟩

set_option maxHeartbeats 4000000 in
theorem r_list {t : Nat} {σ : XS} (h : Rel t σ) (ht : t < 512) (k cup it n : Int32) : Rel (t + 1) (S_MO_list (S_LW_list σ k cup it n).2 k cup it n).2 ∧ S_MO_thrown (S_MO_list (S_LW_list σ k cup it n).2 k cup it n).2 = (S_LW_list σ k cup it n).1 := by
  by_cases hk : inb k 0 5
  · obtain ⟨a, ha, rfl⟩ := inb_of (N := 5) rfl hk
    by_cases hc : inb cup 0 7
    · obtain ⟨b, hb, rfl⟩ := inb_of (N := 7) rfl hc
      by_cases hi : inb it 0 29
      · obtain ⟨c, hc0, rfl⟩ := inb_of (N := 29) rfl hi
        by_cases h1 : inb n 0 99
        · have e1 : S_LW_list σ (nI a) (nI b) (nI c) n = (0, (xuI σ 5 a (30 * b + c) n)) := by
            simp only [ix_1 (show a < 2 ^ 31 by omega), ix_1 (show b < 2 ^ 31 by omega), ix_1 (show c < 2 ^ 31 by omega), S_LW_list, S_LC_list, rk_p _ hk, rc_p _ hc, ri_p _ hi, rr_p _ h1, xbp_l, xbp_r, xca_l, xca_r, i1n0, if_true, if_false, ite_self, xu_s, xu_o, xu_j, xu_l, Nat.reduceEqDiff, not_false_eq_true, ix_cell σ hb hc0]
            try rfl
          have e2 : S_MO_list (xuI σ 5 a (30 * b + c) n) (nI a) (nI b) (nI c) n = ((), (xuI (xuI (xuI σ 5 a (30 * b + c) n) 15 0 0 0) 29 0 (240 * a + (30 * b + c)) n)) := by
            simp only [ix_1 (show a < 2 ^ 31 by omega), ix_1 (show b < 2 ^ 31 by omega), ix_1 (show c < 2 ^ 31 by omega), S_MO_list, in_p _ hk, ic_p _ hc, ii_p _ hi, in_p _ h1, thr_0, xbp_l, xbp_r, xca_l, xca_r, i1n0, if_true, if_false, ite_self, xu_s, xu_o, xu_j, xu_l, Nat.reduceEqDiff, not_false_eq_true, ix_c3 (show a < 16 by omega) hb hc0]
            try rfl
          rw [e1]
          show Rel (t + 1) (S_MO_list (xuI σ 5 a (30 * b + c) n) (nI a) (nI b) (nI c) n).2 ∧ S_MO_thrown (S_MO_list (xuI σ 5 a (30 * b + c) n) (nI a) (nI b) (nI c) n).2 = 0
          rw [e2]
          refine ⟨?_, rfl⟩
          have h1 := inb_iff.mp h1
          have n0 : (0 : Int32).toInt = 0 := rfl
          have n1 : (99 : Int32).toInt = 99 := rfl
          refine ⟨h.nv, h.nvr, h.dy, h.sh, h.dyr, h.shr, h.we, h.wer, h.le, h.st, h.str, ?ne, ?ner, h.co, h.cor, h.coz, h.kd, h.kdr, h.ba, h.bar, h.fr, h.frr, h.re, h.rer, h.pl, h.plr, h.se, h.ser, h.en, h.enz, h.enr, h.bt, h.btz, h.ck, h.ckz, h.gr, h.mo, h.rw, ⟨h.rwr.1, ?rwr⟩, h.to⟩
          case ne =>
            intro v hv j hj
            by_cases q : v = a ∧ j = 30 * b + c
            · obtain ⟨rfl, rfl⟩ := q
              simp [xuI, xuL]
            · have q2 : ¬ (240 * v + j = 240 * a + (30 * b + c)) := by omega
              have q3 : ¬ (j = 30 * b + c ∧ v = a) := fun z => q ⟨z.2, z.1⟩
              simpa [xuI, xuL, q2, q3] using h.ne v hv j hj
          case ner =>
            intro v hv
            by_cases q : v = 240 * a + (30 * b + c)
            · simp only [xuI, q]
              simp
              omega
            · simpa [xuI, q] using h.ner v hv
          case rwr =>
            have := h.rwr.2
            show (σ.1 15 0 18).toInt ≤ _
            omega
        · have e1 : S_LW_list σ (nI a) (nI b) (nI c) n = (2, σ) := by
            simp only [ix_1 (show a < 2 ^ 31 by omega), ix_1 (show b < 2 ^ 31 by omega), ix_1 (show c < 2 ^ 31 by omega), S_LW_list, S_LC_list, rk_p _ hk, rc_p _ hc, ri_p _ hi, rr_n _ h1, ex_ba, ex_bb, xbp_l, xbp_r, xca_l, xca_r, i1n0, if_true, if_false, ite_self]
            try rfl
          have e2 : S_MO_list σ (nI a) (nI b) (nI c) n = ((), xuI σ 15 0 0 2) := by
            simp only [ix_1 (show a < 2 ^ 31 by omega), ix_1 (show b < 2 ^ 31 by omega), ix_1 (show c < 2 ^ 31 by omega), S_MO_list, in_p _ hk, ic_p _ hc, ii_p _ hi, in_n _ h1, thr_2, xbp_l, xbp_r, xca_l, xca_r, i1n0, if_true, if_false, ite_self]
            try rfl
          rw [e1]
          show Rel (t + 1) (S_MO_list σ (nI a) (nI b) (nI c) n).2 ∧ S_MO_thrown (S_MO_list σ (nI a) (nI b) (nI c) n).2 = 2
          rw [e2]
          exact ⟨h.thr 2, rfl⟩
      · have e1 : S_LW_list σ (nI a) (nI b) it n = (1, σ) := by
          simp only [ix_1 (show a < 2 ^ 31 by omega), ix_1 (show b < 2 ^ 31 by omega), S_LW_list, S_LC_list, rk_p _ hk, rc_p _ hc, ri_n _ hi, ex_aa, xbp_l, xbp_r, xca_l, xca_r, i1n0, if_true, if_false, ite_self]
          try rfl
        have e2 : S_MO_list σ (nI a) (nI b) it n = ((), xuI σ 15 0 0 1) := by
          simp only [ix_1 (show a < 2 ^ 31 by omega), ix_1 (show b < 2 ^ 31 by omega), S_MO_list, in_p _ hk, ic_p _ hc, ii_n _ hi, thr_1, xbp_l, xbp_r, xca_l, xca_r, i1n0, if_true, if_false, ite_self]
          try rfl
        rw [e1]
        show Rel (t + 1) (S_MO_list σ (nI a) (nI b) it n).2 ∧ S_MO_thrown (S_MO_list σ (nI a) (nI b) it n).2 = 1
        rw [e2]
        exact ⟨h.thr 1, rfl⟩
    · have e1 : S_LW_list σ (nI a) cup it n = (1, σ) := by
        simp only [ix_1 (show a < 2 ^ 31 by omega), S_LW_list, S_LC_list, rk_p _ hk, rc_n _ hc, ex_aa, xbp_l, xbp_r, xca_l, xca_r, i1n0, if_true, if_false, ite_self]
        try rfl
      have e2 : S_MO_list σ (nI a) cup it n = ((), xuI σ 15 0 0 1) := by
        simp only [ix_1 (show a < 2 ^ 31 by omega), S_MO_list, in_p _ hk, ic_n _ hc, thr_1, xbp_l, xbp_r, xca_l, xca_r, i1n0, if_true, if_false, ite_self]
        try rfl
      rw [e1]
      show Rel (t + 1) (S_MO_list σ (nI a) cup it n).2 ∧ S_MO_thrown (S_MO_list σ (nI a) cup it n).2 = 1
      rw [e2]
      exact ⟨h.thr 1, rfl⟩
  · have e1 : S_LW_list σ k cup it n = (1, σ) := by
      simp only [S_LW_list, S_LC_list, rk_n _ hk, ex_aa, xbp_l, xbp_r, xca_l, xca_r, i1n0, if_true, if_false, ite_self]
      try rfl
    have e2 : S_MO_list σ k cup it n = ((), xuI σ 15 0 0 1) := by
      simp only [S_MO_list, in_n _ hk, thr_1, xbp_l, xbp_r, xca_l, xca_r, i1n0, if_true, if_false, ite_self]
      try rfl
    rw [e1]
    show Rel (t + 1) (S_MO_list σ k cup it n).2 ∧ S_MO_thrown (S_MO_list σ k cup it n).2 = 1
    rw [e2]
    exact ⟨h.thr 1, rfl⟩

set_option maxHeartbeats 4000000 in
theorem r_ends {t : Nat} {σ : XS} (h : Rel t σ) (ht : t < 512) (v it d : Int32) : Rel (t + 1) (S_MO_ends (S_LW_ends σ v it d).2 v it d).2 ∧ S_MO_thrown (S_MO_ends (S_LW_ends σ v it d).2 v it d).2 = (S_LW_ends σ v it d).1 := by
  by_cases hv : isv σ v
  · obtain ⟨a, ha, hav, rfl⟩ := isv_of h hv
    by_cases hi : inb it 0 29
    · obtain ⟨c, hc0, rfl⟩ := inb_of (N := 29) rfl hi
      by_cases h1 : inb d (-1) 9999
      · have e1 : S_LW_ends σ (nI a) (nI c) d = (0, (xuI σ 13 a c d)) := by
          simp only [ix_1 (show a < 2 ^ 31 by omega), ix_1 (show c < 2 ^ 31 by omega), S_LW_ends, S_LC_ends, kv_p h hv, ri_p _ hi, rr_p _ h1, xbp_l, xbp_r, xca_l, xca_r, i1n0, if_true, if_false, ite_self, xu_s, xu_o, xu_j, xu_l, Nat.reduceEqDiff, not_false_eq_true]
          try rfl
        have e2 : S_MO_ends (xuI σ 13 a c d) (nI a) (nI c) d = ((), (xuI (xuI (xuI σ 13 a c d) 15 0 0 0) 26 0 (30 * a + c) d)) := by
          simp only [ix_1 (show a < 2 ^ 31 by omega), ix_1 (show c < 2 ^ 31 by omega), S_MO_ends, iv_p (σ := (xuI σ 13 a c d)) h.nvr hv, ii_p _ hi, in_p _ h1, thr_0, xbp_l, xbp_r, xca_l, xca_r, i1n0, if_true, if_false, ite_self, xu_s, xu_o, xu_j, xu_l, Nat.reduceEqDiff, not_false_eq_true, ix_30 ha hc0]
          try rfl
        rw [e1]
        show Rel (t + 1) (S_MO_ends (xuI σ 13 a c d) (nI a) (nI c) d).2 ∧ S_MO_thrown (S_MO_ends (xuI σ 13 a c d) (nI a) (nI c) d).2 = 0
        rw [e2]
        refine ⟨?_, rfl⟩
        have h1 := inb_iff.mp h1
        have n0 : (-1 : Int32).toInt = -1 := rfl
        refine ⟨h.nv, h.nvr, h.dy, h.sh, h.dyr, h.shr, h.we, h.wer, h.le, h.st, h.str, h.ne, h.ner, h.co, h.cor, h.coz, h.kd, h.kdr, h.ba, h.bar, h.fr, h.frr, h.re, h.rer, h.pl, h.plr, h.se, h.ser, ?en, ?enz, ?enr, h.bt, h.btz, h.ck, h.ckz, h.gr, h.mo, h.rw, ⟨h.rwr.1, ?rwr⟩, h.to⟩
        case en =>
          intro v hv hl j hj
          by_cases q : v = a ∧ j = c
          · obtain ⟨rfl, rfl⟩ := q
            simp [xuI, xuL]
          · have q2 : ¬ (30 * v + j = 30 * a + (c)) := by omega
            have q3 : ¬ (j = c ∧ v = a) := fun z => q ⟨z.2, z.1⟩
            simpa [xuI, xuL, q2, q3] using h.en v hv hl j hj
        case enz =>
          intro v hv hl j hj
          have q : ¬ (v = a) := fun z => by
            subst z
            have hl : (σ.1 15 0 6).toInt ≤ v := hl
            omega
          simpa [xuI, q] using h.enz v hv hl j hj
        case enr =>
          intro v hv j hj
          by_cases q : v = a ∧ j = c
          · obtain ⟨rfl, rfl⟩ := q
            simp only [xuI]
            simp
            omega
          · have q3 : ¬ (j = c ∧ v = a) := fun z => q ⟨z.2, z.1⟩
            simpa [xuI, q3] using h.enr v hv j hj
        case rwr =>
          have := h.rwr.2
          show (σ.1 15 0 18).toInt ≤ _
          omega
      · have e1 : S_LW_ends σ (nI a) (nI c) d = (2, σ) := by
          simp only [ix_1 (show a < 2 ^ 31 by omega), ix_1 (show c < 2 ^ 31 by omega), S_LW_ends, S_LC_ends, kv_p h hv, ri_p _ hi, rr_n _ h1, ex_ba, ex_bb, xbp_l, xbp_r, xca_l, xca_r, i1n0, if_true, if_false, ite_self]
          try rfl
        have e2 : S_MO_ends σ (nI a) (nI c) d = ((), xuI σ 15 0 0 2) := by
          simp only [ix_1 (show a < 2 ^ 31 by omega), ix_1 (show c < 2 ^ 31 by omega), S_MO_ends, iv_p (σ := σ) h.nvr hv, ii_p _ hi, in_n _ h1, thr_2, xbp_l, xbp_r, xca_l, xca_r, i1n0, if_true, if_false, ite_self]
          try rfl
        rw [e1]
        show Rel (t + 1) (S_MO_ends σ (nI a) (nI c) d).2 ∧ S_MO_thrown (S_MO_ends σ (nI a) (nI c) d).2 = 2
        rw [e2]
        exact ⟨h.thr 2, rfl⟩
    · have e1 : S_LW_ends σ (nI a) it d = (1, σ) := by
        simp only [ix_1 (show a < 2 ^ 31 by omega), S_LW_ends, S_LC_ends, kv_p h hv, ri_n _ hi, ex_aa, xbp_l, xbp_r, xca_l, xca_r, i1n0, if_true, if_false, ite_self]
        try rfl
      have e2 : S_MO_ends σ (nI a) it d = ((), xuI σ 15 0 0 1) := by
        simp only [ix_1 (show a < 2 ^ 31 by omega), S_MO_ends, iv_p (σ := σ) h.nvr hv, ii_n _ hi, thr_1, xbp_l, xbp_r, xca_l, xca_r, i1n0, if_true, if_false, ite_self]
        try rfl
      rw [e1]
      show Rel (t + 1) (S_MO_ends σ (nI a) it d).2 ∧ S_MO_thrown (S_MO_ends σ (nI a) it d).2 = 1
      rw [e2]
      exact ⟨h.thr 1, rfl⟩
  · have e1 : S_LW_ends σ v it d = (1, σ) := by
      simp only [S_LW_ends, S_LC_ends, kv_n h hv, ex_aa, xbp_l, xbp_r, xca_l, xca_r, i1n0, if_true, if_false, ite_self]
      try rfl
    have e2 : S_MO_ends σ v it d = ((), xuI σ 15 0 0 1) := by
      simp only [S_MO_ends, iv_n (σ := σ) h.nvr hv, thr_1, xbp_l, xbp_r, xca_l, xca_r, i1n0, if_true, if_false, ite_self]
      try rfl
    rw [e1]
    show Rel (t + 1) (S_MO_ends σ v it d).2 ∧ S_MO_thrown (S_MO_ends σ v it d).2 = 1
    rw [e2]
    exact ⟨h.thr 1, rfl⟩

set_option maxHeartbeats 4000000 in
theorem r_battery {t : Nat} {σ : XS} (h : Rel t σ) (ht : t < 512) (v it d : Int32) : Rel (t + 1) (S_MO_battery (S_LW_battery σ v it d).2 v it d).2 ∧ S_MO_thrown (S_MO_battery (S_LW_battery σ v it d).2 v it d).2 = (S_LW_battery σ v it d).1 := by
  by_cases hv : isv σ v
  · obtain ⟨a, ha, hav, rfl⟩ := isv_of h hv
    by_cases hi : inb it 0 29
    · obtain ⟨c, hc0, rfl⟩ := inb_of (N := 29) rfl hi
      by_cases h1 : inb d 0 100
      · have e1 : S_LW_battery σ (nI a) (nI c) d = (0, (xuI σ 14 a c d)) := by
          simp only [ix_1 (show a < 2 ^ 31 by omega), ix_1 (show c < 2 ^ 31 by omega), S_LW_battery, S_LC_battery, kv_p h hv, ri_p _ hi, rr_p _ h1, xbp_l, xbp_r, xca_l, xca_r, i1n0, if_true, if_false, ite_self, xu_s, xu_o, xu_j, xu_l, Nat.reduceEqDiff, not_false_eq_true]
          try rfl
        have e2 : S_MO_battery (xuI σ 14 a c d) (nI a) (nI c) d = ((), (xuI (xuI (xuI σ 14 a c d) 15 0 0 0) 27 0 (30 * a + c) d)) := by
          simp only [ix_1 (show a < 2 ^ 31 by omega), ix_1 (show c < 2 ^ 31 by omega), S_MO_battery, iv_p (σ := (xuI σ 14 a c d)) h.nvr hv, ii_p _ hi, in_p _ h1, thr_0, xbp_l, xbp_r, xca_l, xca_r, i1n0, if_true, if_false, ite_self, xu_s, xu_o, xu_j, xu_l, Nat.reduceEqDiff, not_false_eq_true, ix_30 ha hc0]
          try rfl
        rw [e1]
        show Rel (t + 1) (S_MO_battery (xuI σ 14 a c d) (nI a) (nI c) d).2 ∧ S_MO_thrown (S_MO_battery (xuI σ 14 a c d) (nI a) (nI c) d).2 = 0
        rw [e2]
        refine ⟨?_, rfl⟩
        refine ⟨h.nv, h.nvr, h.dy, h.sh, h.dyr, h.shr, h.we, h.wer, h.le, h.st, h.str, h.ne, h.ner, h.co, h.cor, h.coz, h.kd, h.kdr, h.ba, h.bar, h.fr, h.frr, h.re, h.rer, h.pl, h.plr, h.se, h.ser, h.en, h.enz, h.enr, ?bt, ?btz, h.ck, h.ckz, h.gr, h.mo, h.rw, ⟨h.rwr.1, ?rwr⟩, h.to⟩
        case bt =>
          intro v hv hl j hj
          by_cases q : v = a ∧ j = c
          · obtain ⟨rfl, rfl⟩ := q
            simp [xuI, xuL]
          · have q2 : ¬ (30 * v + j = 30 * a + (c)) := by omega
            have q3 : ¬ (j = c ∧ v = a) := fun z => q ⟨z.2, z.1⟩
            simpa [xuI, xuL, q2, q3] using h.bt v hv hl j hj
        case btz =>
          intro v hv hl j hj
          have q : ¬ (v = a) := fun z => by
            subst z
            have hl : (σ.1 15 0 6).toInt ≤ v := hl
            omega
          simpa [xuI, q] using h.btz v hv hl j hj
        case rwr =>
          have := h.rwr.2
          show (σ.1 15 0 18).toInt ≤ _
          omega
      · have e1 : S_LW_battery σ (nI a) (nI c) d = (2, σ) := by
          simp only [ix_1 (show a < 2 ^ 31 by omega), ix_1 (show c < 2 ^ 31 by omega), S_LW_battery, S_LC_battery, kv_p h hv, ri_p _ hi, rr_n _ h1, ex_ba, ex_bb, xbp_l, xbp_r, xca_l, xca_r, i1n0, if_true, if_false, ite_self]
          try rfl
        have e2 : S_MO_battery σ (nI a) (nI c) d = ((), xuI σ 15 0 0 2) := by
          simp only [ix_1 (show a < 2 ^ 31 by omega), ix_1 (show c < 2 ^ 31 by omega), S_MO_battery, iv_p (σ := σ) h.nvr hv, ii_p _ hi, in_n _ h1, thr_2, xbp_l, xbp_r, xca_l, xca_r, i1n0, if_true, if_false, ite_self]
          try rfl
        rw [e1]
        show Rel (t + 1) (S_MO_battery σ (nI a) (nI c) d).2 ∧ S_MO_thrown (S_MO_battery σ (nI a) (nI c) d).2 = 2
        rw [e2]
        exact ⟨h.thr 2, rfl⟩
    · have e1 : S_LW_battery σ (nI a) it d = (1, σ) := by
        simp only [ix_1 (show a < 2 ^ 31 by omega), S_LW_battery, S_LC_battery, kv_p h hv, ri_n _ hi, ex_aa, xbp_l, xbp_r, xca_l, xca_r, i1n0, if_true, if_false, ite_self]
        try rfl
      have e2 : S_MO_battery σ (nI a) it d = ((), xuI σ 15 0 0 1) := by
        simp only [ix_1 (show a < 2 ^ 31 by omega), S_MO_battery, iv_p (σ := σ) h.nvr hv, ii_n _ hi, thr_1, xbp_l, xbp_r, xca_l, xca_r, i1n0, if_true, if_false, ite_self]
        try rfl
      rw [e1]
      show Rel (t + 1) (S_MO_battery σ (nI a) it d).2 ∧ S_MO_thrown (S_MO_battery σ (nI a) it d).2 = 1
      rw [e2]
      exact ⟨h.thr 1, rfl⟩
  · have e1 : S_LW_battery σ v it d = (1, σ) := by
      simp only [S_LW_battery, S_LC_battery, kv_n h hv, ex_aa, xbp_l, xbp_r, xca_l, xca_r, i1n0, if_true, if_false, ite_self]
      try rfl
    have e2 : S_MO_battery σ v it d = ((), xuI σ 15 0 0 1) := by
      simp only [S_MO_battery, iv_n (σ := σ) h.nvr hv, thr_1, xbp_l, xbp_r, xca_l, xca_r, i1n0, if_true, if_false, ite_self]
      try rfl
    rw [e1]
    show Rel (t + 1) (S_MO_battery σ v it d).2 ∧ S_MO_thrown (S_MO_battery σ v it d).2 = 1
    rw [e2]
    exact ⟨h.thr 1, rfl⟩

set_option maxHeartbeats 4000000 in
theorem r_check {t : Nat} {σ : XS} (h : Rel t σ) (ht : t < 512) (v : Int32) : Rel (t + 1) (S_MO_check (S_LW_check σ v).2 v).2 ∧ S_MO_thrown (S_MO_check (S_LW_check σ v).2 v).2 = (S_LW_check σ v).1 := by
  by_cases hv : isv σ v
  · obtain ⟨a, ha, hav, rfl⟩ := isv_of h hv
    have e1 : S_LW_check σ (nI a) = (0, (xuI (xuI σ 9 a 9 (σ.1 0 0 7)) 9 a 10 (σ.1 0 0 8))) := by
      simp only [ix_1 (show a < 2 ^ 31 by omega), S_LW_check, S_LC_check, kv_p h hv, xbp_l, xbp_r, xca_l, xca_r, i1n0, if_true, if_false, ite_self, xu_s, xu_o, xu_j, xu_l, Nat.reduceEqDiff, not_false_eq_true]
      try rfl
    have e2 : S_MO_check (xuI (xuI σ 9 a 9 (σ.1 0 0 7)) 9 a 10 (σ.1 0 0 8)) (nI a) = ((), (xuI (xuI (xuI (xuI σ 9 a 9 (σ.1 0 0 7)) 9 a 10 (σ.1 0 0 8)) 15 0 0 0) 23 0 a (3 * σ.1 15 0 1 + σ.1 15 0 2))) := by
      simp only [ix_1 (show a < 2 ^ 31 by omega), S_MO_check, iv_p (σ := (xuI (xuI σ 9 a 9 (σ.1 0 0 7)) 9 a 10 (σ.1 0 0 8))) h.nvr hv, thr_0, xbp_l, xbp_r, xca_l, xca_r, i1n0, if_true, if_false, ite_self, xu_s, xu_o, xu_j, xu_l, Nat.reduceEqDiff, not_false_eq_true]
      try rfl
    rw [e1]
    show Rel (t + 1) (S_MO_check (xuI (xuI σ 9 a 9 (σ.1 0 0 7)) 9 a 10 (σ.1 0 0 8)) (nI a)).2 ∧ S_MO_thrown (S_MO_check (xuI (xuI σ 9 a 9 (σ.1 0 0 7)) 9 a 10 (σ.1 0 0 8)) (nI a)).2 = 0
    rw [e2]
    refine ⟨?_, rfl⟩
    refine ⟨h.nv, h.nvr, h.dy, h.sh, h.dyr, h.shr, h.we, h.wer, h.le, h.st, h.str, h.ne, h.ner, h.co, h.cor, h.coz, h.kd, h.kdr, h.ba, h.bar, h.fr, h.frr, h.re, h.rer, h.pl, h.plr, h.se, h.ser, h.en, h.enz, h.enr, h.bt, h.btz, ?ck, ?ckz, h.gr, h.mo, h.rw, ⟨h.rwr.1, ?rwr⟩, h.to⟩
    case ck =>
      intro v hv hl
      by_cases q : v = a
      · subst q
        refine Or.inr ?_
        simp only [xuI]
        simp
        rw [h.dy, h.sh]
        exact ⟨⟨h.dyr, h.shr⟩, rfl⟩
      · simpa [xuI, q] using h.ck v hv hl
    case ckz =>
      intro v hv hl
      have q : ¬ (v = a) := fun z => by
        subst z
        have hl : (σ.1 15 0 6).toInt ≤ v := hl
        omega
      simpa [xuI, q] using h.ckz v hv hl
    case rwr =>
      have := h.rwr.2
      show (σ.1 15 0 18).toInt ≤ _
      omega
  · have e1 : S_LW_check σ v = (1, σ) := by
      simp only [S_LW_check, S_LC_check, kv_n h hv, ex_aa, xbp_l, xbp_r, xca_l, xca_r, i1n0, if_true, if_false, ite_self]
      try rfl
    have e2 : S_MO_check σ v = ((), xuI σ 15 0 0 1) := by
      simp only [S_MO_check, iv_n (σ := σ) h.nvr hv, thr_1, xbp_l, xbp_r, xca_l, xca_r, i1n0, if_true, if_false, ite_self]
      try rfl
    rw [e1]
    show Rel (t + 1) (S_MO_check σ v).2 ∧ S_MO_thrown (S_MO_check σ v).2 = 1
    rw [e2]
    exact ⟨h.thr 1, rfl⟩

set_option maxHeartbeats 4000000 in
theorem r_has {t : Nat} {σ : XS} (h : Rel t σ) (ht : t < 512) (v cup it : Int32) : Rel (t + 1) (S_MO_has (S_LW_has σ v cup it).2 v cup it).2 ∧ S_MO_thrown (S_MO_has (S_LW_has σ v cup it).2 v cup it).2 = (S_LW_has σ v cup it).1 ∧ ((S_LW_has σ v cup it).1 = 0 → (S_MO_has (S_LW_has σ v cup it).2 v cup it).2.2 31 0 0 = ((S_MO_has (S_LW_has σ v cup it).2 v cup it).1).toInt64) := by
  by_cases hv : isv σ v
  · obtain ⟨a, ha, hav, rfl⟩ := isv_of h hv
    by_cases hc : inb cup 0 7
    · obtain ⟨b, hb, rfl⟩ := inb_of (N := 7) rfl hc
      by_cases hi : inb it 0 29
      · obtain ⟨c, hc0, rfl⟩ := inb_of (N := 29) rfl hi
        have e1 : S_LW_has σ (nI a) (nI b) (nI c) = (0, (xuL σ 31 0 0 (σ.1 12 a (30 * b + c)).toInt64)) := by
          simp only [ix_1 (show a < 2 ^ 31 by omega), ix_1 (show b < 2 ^ 31 by omega), ix_1 (show c < 2 ^ 31 by omega), S_LW_has, S_LC_has, kv_p h hv, rc_p _ hc, ri_p _ hi, xbp_l, xbp_r, xca_l, xca_r, i1n0, if_true, if_false, ite_self, xu_s, xu_o, xu_j, xu_l, Nat.reduceEqDiff, not_false_eq_true, ix_cell σ hb hc0]
          try rfl
        have e2 : S_MO_has (xuL σ 31 0 0 (σ.1 12 a (30 * b + c)).toInt64) (nI a) (nI b) (nI c) = (σ.1 28 0 (240 * a + (30 * b + c)), (xuI (xuL σ 31 0 0 (σ.1 12 a (30 * b + c)).toInt64) 15 0 0 0)) := by
          simp only [ix_1 (show a < 2 ^ 31 by omega), ix_1 (show b < 2 ^ 31 by omega), ix_1 (show c < 2 ^ 31 by omega), S_MO_has, S_MO_isThing, iv_p (σ := (xuL σ 31 0 0 (σ.1 12 a (30 * b + c)).toInt64)) h.nvr hv, ic_p _ hc, ii_p _ hi, thr_0, xbp_l, xbp_r, xca_l, xca_r, i1n0, if_true, if_false, ite_self, xu_s, xu_o, xu_j, xu_l, Nat.reduceEqDiff, not_false_eq_true, ix_c3 ha hb hc0]
          try rfl
        rw [e1]
        show Rel (t + 1) (S_MO_has (xuL σ 31 0 0 (σ.1 12 a (30 * b + c)).toInt64) (nI a) (nI b) (nI c)).2 ∧ S_MO_thrown (S_MO_has (xuL σ 31 0 0 (σ.1 12 a (30 * b + c)).toInt64) (nI a) (nI b) (nI c)).2 = 0 ∧ ((0 : Int32) = 0 → _)
        rw [e2]
        refine ⟨(h.out _).thr 0, rfl, fun _ => ?_⟩
        show (σ.1 12 a (30 * b + c)).toInt64 = (σ.1 28 0 (240 * a + (30 * b + c))).toInt64
        rw [h.co a ha _ (by omega)]
      · have e1 : S_LW_has σ (nI a) (nI b) it = (1, σ) := by
          simp only [ix_1 (show a < 2 ^ 31 by omega), ix_1 (show b < 2 ^ 31 by omega), S_LW_has, S_LC_has, kv_p h hv, rc_p _ hc, ri_n _ hi, ex_aa, xbp_l, xbp_r, xca_l, xca_r, i1n0, if_true, if_false, ite_self]
          try rfl
        have e2 : S_MO_has σ (nI a) (nI b) it = (0, xuI σ 15 0 0 1) := by
          simp only [ix_1 (show a < 2 ^ 31 by omega), ix_1 (show b < 2 ^ 31 by omega), S_MO_has, S_MO_isThing, iv_p (σ := σ) h.nvr hv, ic_p _ hc, ii_n _ hi, thr_1, xbp_l, xbp_r, xca_l, xca_r, i1n0, if_true, if_false, ite_self]
          try rfl
        rw [e1]
        show Rel (t + 1) (S_MO_has σ (nI a) (nI b) it).2 ∧ S_MO_thrown (S_MO_has σ (nI a) (nI b) it).2 = 1 ∧ ((1 : Int32) = 0 → _)
        rw [e2]
        exact ⟨h.thr 1, rfl, fun q => absurd q (by decide)⟩
    · have e1 : S_LW_has σ (nI a) cup it = (1, σ) := by
        simp only [ix_1 (show a < 2 ^ 31 by omega), S_LW_has, S_LC_has, kv_p h hv, rc_n _ hc, ex_aa, xbp_l, xbp_r, xca_l, xca_r, i1n0, if_true, if_false, ite_self]
        try rfl
      have e2 : S_MO_has σ (nI a) cup it = (0, xuI σ 15 0 0 1) := by
        simp only [ix_1 (show a < 2 ^ 31 by omega), S_MO_has, S_MO_isThing, iv_p (σ := σ) h.nvr hv, ic_n _ hc, thr_1, xbp_l, xbp_r, xca_l, xca_r, i1n0, if_true, if_false, ite_self]
        try rfl
      rw [e1]
      show Rel (t + 1) (S_MO_has σ (nI a) cup it).2 ∧ S_MO_thrown (S_MO_has σ (nI a) cup it).2 = 1 ∧ ((1 : Int32) = 0 → _)
      rw [e2]
      exact ⟨h.thr 1, rfl, fun q => absurd q (by decide)⟩
  · have e1 : S_LW_has σ v cup it = (1, σ) := by
      simp only [S_LW_has, S_LC_has, kv_n h hv, ex_aa, xbp_l, xbp_r, xca_l, xca_r, i1n0, if_true, if_false, ite_self]
      try rfl
    have e2 : S_MO_has σ v cup it = (0, xuI σ 15 0 0 1) := by
      simp only [S_MO_has, S_MO_isThing, iv_n (σ := σ) h.nvr hv, thr_1, xbp_l, xbp_r, xca_l, xca_r, i1n0, if_true, if_false, ite_self]
      try rfl
    rw [e1]
    show Rel (t + 1) (S_MO_has σ v cup it).2 ∧ S_MO_thrown (S_MO_has σ v cup it).2 = 1 ∧ ((1 : Int32) = 0 → _)
    rw [e2]
    exact ⟨h.thr 1, rfl, fun q => absurd q (by decide)⟩

set_option maxHeartbeats 4000000 in
theorem r_stocked {t : Nat} {σ : XS} (h : Rel t σ) (ht : t < 512) (it : Int32) : Rel (t + 1) (S_MO_stocked (S_LW_stocked σ it).2 it).2 ∧ S_MO_thrown (S_MO_stocked (S_LW_stocked σ it).2 it).2 = (S_LW_stocked σ it).1 ∧ ((S_LW_stocked σ it).1 = 0 → (S_MO_stocked (S_LW_stocked σ it).2 it).2.2 31 0 0 = ((S_MO_stocked (S_LW_stocked σ it).2 it).1).toInt64) := by
  by_cases hi : inb it 0 29
  · obtain ⟨c, hc0, rfl⟩ := inb_of (N := 29) rfl hi
    have e1 : S_LW_stocked σ (nI c) = (0, (xuL σ 31 0 0 (σ.1 3 0 c).toInt64)) := by
      simp only [ix_1 (show c < 2 ^ 31 by omega), S_LW_stocked, S_LC_stocked, ri_p _ hi, xbp_l, xbp_r, xca_l, xca_r, i1n0, if_true, if_false, ite_self, xu_s, xu_o, xu_j, xu_l, Nat.reduceEqDiff, not_false_eq_true]
      try rfl
    have e2 : S_MO_stocked (xuL σ 31 0 0 (σ.1 3 0 c).toInt64) (nI c) = (σ.1 18 0 c, (xuI (xuL σ 31 0 0 (σ.1 3 0 c).toInt64) 15 0 0 0)) := by
      simp only [ix_1 (show c < 2 ^ 31 by omega), S_MO_stocked, ii_p _ hi, thr_0, xbp_l, xbp_r, xca_l, xca_r, i1n0, if_true, if_false, ite_self, xu_s, xu_o, xu_j, xu_l, Nat.reduceEqDiff, not_false_eq_true]
      try rfl
    rw [e1]
    show Rel (t + 1) (S_MO_stocked (xuL σ 31 0 0 (σ.1 3 0 c).toInt64) (nI c)).2 ∧ S_MO_thrown (S_MO_stocked (xuL σ 31 0 0 (σ.1 3 0 c).toInt64) (nI c)).2 = 0 ∧ ((0 : Int32) = 0 → _)
    rw [e2]
    refine ⟨(h.out _).thr 0, rfl, fun _ => ?_⟩
    show (σ.1 3 0 c).toInt64 = (σ.1 18 0 c).toInt64
    rw [h.st c hc0]
  · have e1 : S_LW_stocked σ it = (1, σ) := by
      simp only [S_LW_stocked, S_LC_stocked, ri_n _ hi, ex_aa, xbp_l, xbp_r, xca_l, xca_r, i1n0, if_true, if_false, ite_self]
      try rfl
    have e2 : S_MO_stocked σ it = (0, xuI σ 15 0 0 1) := by
      simp only [S_MO_stocked, ii_n _ hi, thr_1, xbp_l, xbp_r, xca_l, xca_r, i1n0, if_true, if_false, ite_self]
      try rfl
    rw [e1]
    show Rel (t + 1) (S_MO_stocked σ it).2 ∧ S_MO_thrown (S_MO_stocked σ it).2 = 1 ∧ ((1 : Int32) = 0 → _)
    rw [e2]
    exact ⟨h.thr 1, rfl, fun q => absurd q (by decide)⟩

set_option maxHeartbeats 4000000 in
theorem r_stock {t : Nat} {σ : XS} (h : Rel t σ) (ht : t < 512) (it n : Int32) : Rel (t + 1) (S_MO_stock (S_LW_stock σ it n).2 it n).2 ∧ S_MO_thrown (S_MO_stock (S_LW_stock σ it n).2 it n).2 = (S_LW_stock σ it n).1 ∧ ((S_LW_stock σ it n).1 = 0 → (S_MO_stock (S_LW_stock σ it n).2 it n).2.2 31 0 0 = ((S_MO_stock (S_LW_stock σ it n).2 it n).1).toInt64) := by
  by_cases hi : inb it 0 29
  · obtain ⟨c, hc0, rfl⟩ := inb_of (N := 29) rfl hi
    by_cases h1 : inb n 1 99
    · have es : σ.1 3 0 c = σ.1 18 0 c := h.st c hc0
      by_cases hr : σ.1 18 0 c + n ≤ 10000
      · have e1 : S_LW_stock σ (nI c) n = (0, (xuL (xuI σ 3 0 c (σ.1 18 0 c + n)) 31 0 0 (σ.1 18 0 c + n).toInt64)) := by
          simp only [ix_1 (show c < 2 ^ 31 by omega), S_LW_stock, S_LC_stock, ri_p _ hi, rr_p _ h1, es, hr, xbp_l, xbp_r, xca_l, xca_r, i1n0, if_true, if_false, ite_self, xu_s, xu_o, xu_j, xu_l, Nat.reduceEqDiff, not_false_eq_true]
          try rfl
        have e2 : S_MO_stock (xuL (xuI σ 3 0 c (σ.1 18 0 c + n)) 31 0 0 (σ.1 18 0 c + n).toInt64) (nI c) n = (σ.1 18 0 c + n, (xuI (xuI (xuL (xuI σ 3 0 c (σ.1 18 0 c + n)) 31 0 0 (σ.1 18 0 c + n).toInt64) 15 0 0 0) 18 0 c (σ.1 18 0 c + n))) := by
          simp only [ix_1 (show c < 2 ^ 31 by omega), S_MO_stock, ii_p _ hi, in_p _ h1, hr, thr_0, xbp_l, xbp_r, xca_l, xca_r, i1n0, if_true, if_false, ite_self, xu_s, xu_o, xu_j, xu_l, Nat.reduceEqDiff, not_false_eq_true]
          try rfl
        rw [e1]
        show Rel (t + 1) (S_MO_stock (xuL (xuI σ 3 0 c (σ.1 18 0 c + n)) 31 0 0 (σ.1 18 0 c + n).toInt64) (nI c) n).2 ∧ S_MO_thrown (S_MO_stock (xuL (xuI σ 3 0 c (σ.1 18 0 c + n)) 31 0 0 (σ.1 18 0 c + n).toInt64) (nI c) n).2 = 0 ∧ ((0 : Int32) = 0 → _)
        rw [e2]
        refine ⟨?_, rfl, fun _ => rfl⟩
        have h1 := inb_iff.mp h1
        have n0 : (1 : Int32).toInt = 1 := rfl
        have n1 : (99 : Int32).toInt = 99 := rfl
        have n2 : (10000 : Int32).toInt = 10000 := rfl
        have hs := h.str c hc0
        rw [Int32.le_iff_toInt_le] at hr
        have e3 : (σ.1 18 0 c + n).toInt = (σ.1 18 0 c).toInt + n.toInt := i_add (by omega) (by omega)
        generalize σ.1 18 0 c + n = X at e3 hr ⊢
        refine ⟨h.nv, h.nvr, h.dy, h.sh, h.dyr, h.shr, h.we, h.wer, h.le, ?st, ?str, h.ne, h.ner, h.co, h.cor, h.coz, h.kd, h.kdr, h.ba, h.bar, h.fr, h.frr, h.re, h.rer, h.pl, h.plr, h.se, h.ser, h.en, h.enz, h.enr, h.bt, h.btz, h.ck, h.ckz, h.gr, h.mo, h.rw, ⟨h.rwr.1, ?rwr⟩, h.to⟩
        case st =>
          intro v hv
          by_cases q : v = c
          · simp [xuI, xuL, q]
          · simpa [xuI, xuL, q] using h.st v hv
        case str =>
          intro v hv
          by_cases q : v = c
          · simp only [xuI, xuL, q]
            simp
            omega
          · simpa [xuI, xuL, q] using h.str v hv
        case rwr =>
          have := h.rwr.2
          show (σ.1 15 0 18).toInt ≤ _
          omega
      · have e1 : S_LW_stock σ (nI c) n = (3, σ) := by
          simp only [ix_1 (show c < 2 ^ 31 by omega), S_LW_stock, S_LC_stock, ri_p _ hi, rr_p _ h1, es, hr, show ("java/lang/UnsupportedOperationException" = "java/lang/IllegalArgumentException") = False from ex_da, show ("java/lang/UnsupportedOperationException" = "java/lang/IndexOutOfBoundsException") = False from ex_db, xbp_l, xbp_r, xca_l, xca_r, i1n0, if_true, if_false, ite_self]
          try rfl
        have e2 : S_MO_stock σ (nI c) n = (0, xuI σ 15 0 0 3) := by
          simp only [ix_1 (show c < 2 ^ 31 by omega), S_MO_stock, ii_p _ hi, in_p _ h1, show ¬ (σ.1 18 0 c + n ≤ 10000) from hr, thr_3, xbp_l, xbp_r, xca_l, xca_r, i1n0, if_true, if_false, ite_self]
          try rfl
        rw [e1]
        show Rel (t + 1) (S_MO_stock σ (nI c) n).2 ∧ S_MO_thrown (S_MO_stock σ (nI c) n).2 = 3 ∧ ((3 : Int32) = 0 → _)
        rw [e2]
        exact ⟨h.thr 3, rfl, fun q => absurd q (by decide)⟩
    · have e1 : S_LW_stock σ (nI c) n = (2, σ) := by
        simp only [ix_1 (show c < 2 ^ 31 by omega), S_LW_stock, S_LC_stock, ri_p _ hi, rr_n _ h1, ex_ba, ex_bb, xbp_l, xbp_r, xca_l, xca_r, i1n0, if_true, if_false, ite_self]
        try rfl
      have e2 : S_MO_stock σ (nI c) n = (0, xuI σ 15 0 0 2) := by
        simp only [ix_1 (show c < 2 ^ 31 by omega), S_MO_stock, ii_p _ hi, in_n _ h1, thr_2, xbp_l, xbp_r, xca_l, xca_r, i1n0, if_true, if_false, ite_self]
        try rfl
      rw [e1]
      show Rel (t + 1) (S_MO_stock σ (nI c) n).2 ∧ S_MO_thrown (S_MO_stock σ (nI c) n).2 = 2 ∧ ((2 : Int32) = 0 → _)
      rw [e2]
      exact ⟨h.thr 2, rfl, fun q => absurd q (by decide)⟩
  · have e1 : S_LW_stock σ it n = (1, σ) := by
      simp only [S_LW_stock, S_LC_stock, ri_n _ hi, ex_aa, xbp_l, xbp_r, xca_l, xca_r, i1n0, if_true, if_false, ite_self]
      try rfl
    have e2 : S_MO_stock σ it n = (0, xuI σ 15 0 0 1) := by
      simp only [S_MO_stock, ii_n _ hi, thr_1, xbp_l, xbp_r, xca_l, xca_r, i1n0, if_true, if_false, ite_self]
      try rfl
    rw [e1]
    show Rel (t + 1) (S_MO_stock σ it n).2 ∧ S_MO_thrown (S_MO_stock σ it n).2 = 1 ∧ ((1 : Int32) = 0 → _)
    rw [e2]
    exact ⟨h.thr 1, rfl, fun q => absurd q (by decide)⟩
