set_option maxHeartbeats 4000000 in
theorem r_place {t : Nat} {σ : XS} (h : Rel t σ) (ht : t < 512) (v cup mm : Int32) : Rel (t + 1) (S_MO_place (S_LW_place σ v cup mm).2 v cup mm).2 ∧ S_MO_thrown (S_MO_place (S_LW_place σ v cup mm).2 v cup mm).2 = (S_LW_place σ v cup mm).1 := by
  by_cases hv : isv σ v
  · obtain ⟨a, ha, hav, rfl⟩ := isv_of h hv
    by_cases hc : inb cup 0 7
    · obtain ⟨b, hb, rfl⟩ := inb_of (N := 7) rfl hc
      by_cases h1 : inb mm (-2000) 10000
      · by_cases he : ∀ j, j < 30 → σ.1 28 0 (240 * a + (30 * b + j)) = 0
        · have e1 : S_LW_place σ (nI a) (nI b) mm = (0, (xuI σ 10 a b mm)) := by
            simp only [ix_1 (show a < 2 ^ 31 by omega), ix_1 (show b < 2 ^ 31 by omega), S_LW_place, S_LC_place, kv_p h hv, rc_p _ hc, rr_p _ h1, em_p h ha hb he, xbp_l, xbp_r, xca_l, xca_r, i1n0, if_true, if_false, ite_self, xu_s, xu_o, xu_j, xu_l, Nat.reduceEqDiff, not_false_eq_true]
            try rfl
          have e2 : S_MO_place (xuI σ 10 a b mm) (nI a) (nI b) mm = ((), (xuI (xuI (xuI σ 10 a b mm) 15 0 0 0) 24 0 (8 * a + b) mm)) := by
            simp only [ix_1 (show a < 2 ^ 31 by omega), ix_1 (show b < 2 ^ 31 by omega), S_MO_place, iv_p (σ := (xuI σ 10 a b mm)) h.nvr hv, ic_p _ hc, in_p _ h1, me_p (σ := (xuI σ 10 a b mm)) ha hb he, thr_0, xbp_l, xbp_r, xca_l, xca_r, i1n0, if_true, if_false, ite_self, xu_s, xu_o, xu_j, xu_l, Nat.reduceEqDiff, not_false_eq_true, ix_8 ha hb]
            try rfl
          rw [e1]
          show Rel (t + 1) (S_MO_place (xuI σ 10 a b mm) (nI a) (nI b) mm).2 ∧ S_MO_thrown (S_MO_place (xuI σ 10 a b mm) (nI a) (nI b) mm).2 = 0
          rw [e2]
          refine ⟨?_, rfl⟩
          have h1 := inb_iff.mp h1
          have n0 : (-2000 : Int32).toInt = -2000 := rfl
          have n1 : (10000 : Int32).toInt = 10000 := rfl
          refine ⟨h.nv, h.nvr, h.dy, h.sh, h.dyr, h.shr, h.we, h.wer, h.le, h.st, h.str, h.ne, h.ner, h.co, h.cor, h.coz, h.kd, h.kdr, h.ba, h.bar, h.fr, h.frr, h.re, h.rer, ?pl, ?plr, h.se, h.ser, h.en, h.enz, h.enr, h.bt, h.btz, h.ck, h.ckz, h.gr, ?mo, h.rw, ⟨h.rwr.1, ?rwr⟩, h.to⟩
          case pl =>
            intro v hv j hj
            by_cases q : v = a ∧ j = b
            · obtain ⟨rfl, rfl⟩ := q
              simp [xuI, xuL]
            · have q2 : ¬ (8 * v + j = 8 * a + (b)) := by omega
              have q3 : ¬ (j = b ∧ v = a) := fun z => q ⟨z.2, z.1⟩
              simpa [xuI, xuL, q2, q3] using h.pl v hv j hj
          case plr =>
            intro v hv
            by_cases q : v = 8 * a + b
            · simp only [xuI, q]
              simp
              omega
            · simpa [xuI, q] using h.plr v hv
          case mo =>
            intro v hv
            refine (h.mo v hv).trans (isum_congr fun j hj => ?_)
            show gw σ v j * _ = gw σ v j * _
            by_cases q : 8 * v + j / 30 = 8 * a + b
            · have q1 : v = a := by omega
              have q2 : j / 30 = b := by omega
              have e5 : gw σ v j = 0 := by
                show (σ.1 16 0 (j % 30)).toInt * (σ.1 28 0 (240 * v + j)).toInt = 0
                have e6 := he (j % 30) (by omega)
                rw [show 240 * v + j = 240 * a + (30 * b + j % 30) by omega, e6]
                exact Int.mul_zero _
              rw [e5, Int.zero_mul, Int.zero_mul]
            · have e5 : (xuI (xuI (xuI σ 10 a b mm) 15 0 0 0) 24 0 (8 * a + b) mm).1 24 0 (8 * v + j / 30) = σ.1 24 0 (8 * v + j / 30) := by
                simp [xuI, q]
              rw [e5]
          case rwr =>
            have := h.rwr.2
            show (σ.1 15 0 18).toInt ≤ _
            omega
        · have e1 : S_LW_place σ (nI a) (nI b) mm = (3, σ) := by
            simp only [ix_1 (show a < 2 ^ 31 by omega), ix_1 (show b < 2 ^ 31 by omega), S_LW_place, S_LC_place, kv_p h hv, rc_p _ hc, rr_p _ h1, em_n h ha hb he, show ("java/lang/IllegalStateException" = "java/lang/IllegalArgumentException") = False from ex_ca, show ("java/lang/IllegalStateException" = "java/lang/IndexOutOfBoundsException") = False from ex_cb, xbp_l, xbp_r, xca_l, xca_r, i1n0, if_true, if_false, ite_self]
            try rfl
          have e2 : S_MO_place σ (nI a) (nI b) mm = ((), xuI σ 15 0 0 3) := by
            simp only [ix_1 (show a < 2 ^ 31 by omega), ix_1 (show b < 2 ^ 31 by omega), S_MO_place, iv_p (σ := σ) h.nvr hv, ic_p _ hc, in_p _ h1, me_n (σ := σ) ha hb he, thr_3, xbp_l, xbp_r, xca_l, xca_r, i1n0, if_true, if_false, ite_self]
            try rfl
          rw [e1]
          show Rel (t + 1) (S_MO_place σ (nI a) (nI b) mm).2 ∧ S_MO_thrown (S_MO_place σ (nI a) (nI b) mm).2 = 3
          rw [e2]
          exact ⟨h.thr 3, rfl⟩
      · have e1 : S_LW_place σ (nI a) (nI b) mm = (2, σ) := by
          simp only [ix_1 (show a < 2 ^ 31 by omega), ix_1 (show b < 2 ^ 31 by omega), S_LW_place, S_LC_place, kv_p h hv, rc_p _ hc, rr_n _ h1, ex_ba, ex_bb, xbp_l, xbp_r, xca_l, xca_r, i1n0, if_true, if_false, ite_self]
          try rfl
        have e2 : S_MO_place σ (nI a) (nI b) mm = ((), xuI σ 15 0 0 2) := by
          simp only [ix_1 (show a < 2 ^ 31 by omega), ix_1 (show b < 2 ^ 31 by omega), S_MO_place, iv_p (σ := σ) h.nvr hv, ic_p _ hc, in_n _ h1, thr_2, xbp_l, xbp_r, xca_l, xca_r, i1n0, if_true, if_false, ite_self]
          try rfl
        rw [e1]
        show Rel (t + 1) (S_MO_place σ (nI a) (nI b) mm).2 ∧ S_MO_thrown (S_MO_place σ (nI a) (nI b) mm).2 = 2
        rw [e2]
        exact ⟨h.thr 2, rfl⟩
    · have e1 : S_LW_place σ (nI a) cup mm = (1, σ) := by
        simp only [ix_1 (show a < 2 ^ 31 by omega), S_LW_place, S_LC_place, kv_p h hv, rc_n _ hc, ex_aa, xbp_l, xbp_r, xca_l, xca_r, i1n0, if_true, if_false, ite_self]
        try rfl
      have e2 : S_MO_place σ (nI a) cup mm = ((), xuI σ 15 0 0 1) := by
        simp only [ix_1 (show a < 2 ^ 31 by omega), S_MO_place, iv_p (σ := σ) h.nvr hv, ic_n _ hc, thr_1, xbp_l, xbp_r, xca_l, xca_r, i1n0, if_true, if_false, ite_self]
        try rfl
      rw [e1]
      show Rel (t + 1) (S_MO_place σ (nI a) cup mm).2 ∧ S_MO_thrown (S_MO_place σ (nI a) cup mm).2 = 1
      rw [e2]
      exact ⟨h.thr 1, rfl⟩
  · have e1 : S_LW_place σ v cup mm = (1, σ) := by
      simp only [S_LW_place, S_LC_place, kv_n h hv, ex_aa, xbp_l, xbp_r, xca_l, xca_r, i1n0, if_true, if_false, ite_self]
      try rfl
    have e2 : S_MO_place σ v cup mm = ((), xuI σ 15 0 0 1) := by
      simp only [S_MO_place, iv_n (σ := σ) h.nvr hv, thr_1, xbp_l, xbp_r, xca_l, xca_r, i1n0, if_true, if_false, ite_self]
      try rfl
    rw [e1]
    show Rel (t + 1) (S_MO_place σ v cup mm).2 ∧ S_MO_thrown (S_MO_place σ v cup mm).2 = 1
    rw [e2]
    exact ⟨h.thr 1, rfl⟩
