theorem ix_30k {a b : Nat} (ha : a < 128) (hb : b < 30) : ((30 : Int32) * nI a + nI b).toNatClampNeg = 30 * a + b := by
  show (nI 30 * nI a + nI b).toNatClampNeg = _
  rw [pk_mul, nI_add, ix_1 (by omega)]
theorem ms_1 {σ : XS} {it : Int32} : ∀ n k : Nat, k + n = 129 → k < 129 → L_MO_isSomewhere n σ it 1 (nI k) = 1 := by
  intro n
  induction n with
  | zero => intro k h1 h2; omega
  | succ n ih =>
    intro k h1 h2
    rw [L_MO_isSomewhere]
    by_cases c9 : (128 : Int32) ≤ nI k
    · rw [if_pos c9]
    · have hk : k < 128 := x_klt (b := 128) rfl (by decide) (by omega) rfl c9
      rw [if_neg c9, if_neg i1n0, nI_1]
      exact ih (k + 1) (by omega) (by omega)
theorem ms_e {σ : XS} {c : Nat} (hc : c < 30) (hall : ∀ j, j < 128 → σ.1 28 0 (30 * j + c) ≤ 0) : ∀ n k : Nat, k + n = 129 → k < 129 → L_MO_isSomewhere n σ (nI c) 0 (nI k) = 0 := by
  intro n
  induction n with
  | zero => intro k h1 h2; omega
  | succ n ih =>
    intro k h1 h2
    rw [L_MO_isSomewhere]
    by_cases c9 : (128 : Int32) ≤ nI k
    · rw [if_pos c9]
    · have hk : k < 128 := x_klt (b := 128) rfl (by decide) (by omega) rfl c9
      rw [if_neg c9, if_pos rfl, ix_30k hk hc, if_pos (hall k hk), nI_1]
      exact ih (k + 1) (by omega) (by omega)
theorem ms_f {σ : XS} {c j : Nat} (hc : c < 30) (hj : j < 128) (hC : ¬ σ.1 28 0 (30 * j + c) ≤ 0) : ∀ n k : Nat, k + n = 129 → k ≤ j → L_MO_isSomewhere n σ (nI c) 0 (nI k) = 1 := by
  intro n
  induction n with
  | zero => intro k h1 h2; omega
  | succ n ih =>
    intro k h1 h2
    have hk : k < 128 := by omega
    have c9 : ¬ (128 : Int32) ≤ nI k := fun q => by
      rw [Int32.le_iff_toInt_le, nI_toInt (by omega)] at q
      have hN : (128 : Int32).toInt = 128 := rfl
      omega
    rw [L_MO_isSomewhere, if_neg c9, if_pos rfl, ix_30k hk hc, nI_1]
    by_cases e : k = j
    · subst e
      rw [if_neg hC]
      exact ms_1 n (k + 1) (by omega) (by omega)
    · by_cases z : σ.1 28 0 (30 * k + c) ≤ 0
      · rw [if_pos z]
        exact ih (k + 1) (by omega) (by omega)
      · rw [if_neg z]
        exact ms_1 n (k + 1) (by omega) (by omega)
def now_ (σ : XS) (c : Nat) : Prop := σ.1 18 0 c ≤ 0 ∧ ∀ j, j < 128 → σ.1 28 0 (30 * j + c) ≤ 0
theorem sm_p {σ : XS} {c : Nat} (hc : c < 30) (h : now_ σ c) : S_MO_isSomewhere σ (nI c) = 0 := by
  unfold S_MO_isSomewhere
  rw [ix_1 (by omega), if_pos h.1]
  exact ms_e hc h.2 129 0 rfl (by decide)
theorem sm_n {σ : XS} {c : Nat} (hc : c < 30) (h : ¬ now_ σ c) : S_MO_isSomewhere σ (nI c) = 1 := by
  unfold S_MO_isSomewhere
  rw [ix_1 (by omega)]
  by_cases h1 : σ.1 18 0 c ≤ 0
  · rw [if_pos h1]
    obtain ⟨j, hj, hC, -⟩ := least (P := fun j => σ.1 28 0 (30 * j + c) ≤ 0) (N := 128) (fun q => h ⟨h1, q⟩)
    exact ms_f hc hj hC 129 0 rfl (by omega)
  · rw [if_neg h1]
    exact ms_1 129 0 rfl (by decide)
theorem ca_p {t : Nat} {σ : XS} (h : Rel t σ) {c v : Nat} (hc : c < 30) (hv : v < 16) (hn : now_ σ c) : S_VE_carries σ v (nI c) = 0 := by
  unfold S_VE_carries
  refine ve_ca_e hc (fun j hj => ?_) 9 0 rfl (by decide)
  rw [h.co v hv _ (by omega)]
  have := hn.2 (8 * v + j) (by omega)
  rw [show 30 * (8 * v + j) + c = 240 * v + (30 * j + c) by omega] at this
  exact this
theorem ca_n {t : Nat} {σ : XS} (h : Rel t σ) {c v j : Nat} (hc : c < 30) (hv : v < 16) (hj : j < 8) (hn : ¬ σ.1 28 0 (30 * (8 * v + j) + c) ≤ 0) : S_VE_carries σ v (nI c) = 1 := by
  have g : ∀ i, i < 8 → σ.1 12 v (30 * i + c) = σ.1 28 0 (30 * (8 * v + i) + c) := fun i hi => by
    rw [h.co v hv _ (by omega), show 30 * (8 * v + i) + c = 240 * v + (30 * i + c) by omega]
  obtain ⟨i, hi, hC, hbef⟩ := least (P := fun i => σ.1 12 v (30 * i + c) ≤ 0) (N := 8) (fun q => hn (by rw [← g j hj]; exact q j hj))
  unfold S_VE_carries
  exact ve_ca_f hc hi hC hbef 9 0 rfl (by omega)
theorem an_e {σ : XS} {it : Int32} {V : Nat} (hV : V ≤ 16) (e : σ.1 0 0 6 = nI V) (hall : ∀ v, v < V → S_VE_carries σ v it = 0) : ∀ n k : Nat, k + n = 17 → k ≤ V → L_LC_isAnywhere n σ it (nI k) = 0 := by
  intro n
  induction n with
  | zero => intro k h1 h2; omega
  | succ n ih =>
    intro k h1 h2
    rw [L_LC_isAnywhere, e]
    by_cases c9 : nI V ≤ nI k
    · rw [if_pos c9]
    · have hk : k < V := by
        rw [Int32.le_iff_toInt_le, nI_toInt (by omega), nI_toInt (by omega)] at c9
        omega
      rw [if_neg c9, ix_1 (by omega), if_pos (hall k hk), nI_1]
      exact ih (k + 1) (by omega) (by omega)
theorem an_f {σ : XS} {it : Int32} {V j : Nat} (hV : V ≤ 16) (e : σ.1 0 0 6 = nI V) (hj : j < V) (hC : ¬ S_VE_carries σ j it = 0) : ∀ n k : Nat, k + n = 17 → k ≤ j → L_LC_isAnywhere n σ it (nI k) = 1 := by
  intro n
  induction n with
  | zero => intro k h1 h2; omega
  | succ n ih =>
    intro k h1 h2
    have c9 : ¬ nI V ≤ nI k := fun q => by
      rw [Int32.le_iff_toInt_le, nI_toInt (by omega), nI_toInt (by omega)] at q
      omega
    rw [L_LC_isAnywhere, e, if_neg c9, ix_1 (by omega), nI_1]
    by_cases e2 : k = j
    · subst e2
      rw [if_neg hC]
    · by_cases z : S_VE_carries σ k it = 0
      · rw [if_pos z]
        exact ih (k + 1) (by omega) (by omega)
      · rw [if_neg z]
theorem Rel.V {t : Nat} {σ : XS} (h : Rel t σ) : ∃ V : Nat, V ≤ 16 ∧ σ.1 15 0 6 = nI V ∧ (σ.1 15 0 6).toInt = V := by
  have h1 := h.nvr
  obtain ⟨a, ha, e⟩ := nI_of (x := σ.1 15 0 6) (by rw [Int32.lt_iff_toInt_lt]; have n0 : (0 : Int32).toInt = 0 := rfl; omega)
  have e2 : (σ.1 15 0 6).toInt = a := by rw [e, nI_toInt ha]
  exact ⟨a, by omega, e, e2⟩
theorem aw_p {t : Nat} {σ : XS} (h : Rel t σ) {c : Nat} (hc : c < 30) (hn : now_ σ c) : S_LC_isAnywhere σ (nI c) = 0 := by
  obtain ⟨V, hV, e, -⟩ := h.V
  unfold S_LC_isAnywhere
  rw [ix_1 (by omega), h.st c hc, if_pos hn.1]
  exact an_e hV (h.nv.trans e) (fun v hv => ca_p h hc (by omega) hn) 17 0 rfl (by omega)
theorem aw_n {t : Nat} {σ : XS} (h : Rel t σ) {c : Nat} (hc : c < 30) (hn : ¬ now_ σ c) : S_LC_isAnywhere σ (nI c) = 1 := by
  obtain ⟨V, hV, e, eV⟩ := h.V
  unfold S_LC_isAnywhere
  rw [ix_1 (by omega), h.st c hc]
  by_cases h1 : σ.1 18 0 c ≤ 0
  · rw [if_pos h1]
    obtain ⟨j, hj, hC, -⟩ := least (P := fun j => σ.1 28 0 (30 * j + c) ≤ 0) (N := 128) (fun q => hn ⟨h1, q⟩)
    have hjV : j / 8 < V := by
      rcases Nat.lt_or_ge (j / 8) V with q | q
      · exact q
      · exfalso
        apply hC
        have := h.coz (30 * j + c) (by omega) (by rw [eV]; omega)
        show σ.1 28 0 (30 * j + c) ≤ 0
        rw [this]
        decide
    have hca : S_VE_carries σ (j / 8) (nI c) = 1 := ca_n h (j := j % 8) hc (by omega) (by omega) (by rw [show 8 * (j / 8) + j % 8 = j by omega]; exact hC)
    exact an_f hV (h.nv.trans e) hjV (by rw [hca]; decide) 17 0 rfl (by omega)
  · rw [if_neg h1]
set_option maxHeartbeats 4000000 in
theorem r_item {t : Nat} {σ : XS} (h : Rel t σ) (ht : t < 512) (it gr le : Int32) : Rel (t + 1) (S_MO_item (S_LW_item σ it gr le).2 it gr le).2 ∧ S_MO_thrown (S_MO_item (S_LW_item σ it gr le).2 it gr le).2 = (S_LW_item σ it gr le).1 := by
  by_cases hi : inb it 0 29
  · obtain ⟨c, hc0, rfl⟩ := inb_of (N := 29) rfl hi
    by_cases h1 : inb gr 0 500000
    · by_cases h2 : inb le 0 100
      · have es : σ.1 1 0 c = σ.1 16 0 c := h.we c hc0
        by_cases hE : gr = σ.1 16 0 c
        · have e1 : S_LW_item σ (nI c) gr le = (0, (xuI (xuI σ 1 0 c gr) 2 0 c le)) := by
            simp only [ix_1 (show c < 2 ^ 31 by omega), S_LW_item, S_LC_item, ri_p _ hi, rr_p _ h1, rr_p _ h2, xbp_l, xbp_r, xca_l, xca_r, i1n0, if_true, if_false, ite_self, xu_s, xu_o, xu_j, xu_l, Nat.reduceEqDiff, not_false_eq_true, es, show (gr = σ.1 16 0 c) = True from eq_true hE]
            try rfl
          have e2 : S_MO_item (xuI (xuI σ 1 0 c gr) 2 0 c le) (nI c) gr le = ((), (xuI (xuI (xuI (xuI (xuI σ 1 0 c gr) 2 0 c le) 15 0 0 0) 16 0 c gr) 17 0 c le)) := by
            simp only [ix_1 (show c < 2 ^ 31 by omega), S_MO_item, ii_p _ hi, in_p _ h1, in_p _ h2, thr_0, xbp_l, xbp_r, xca_l, xca_r, i1n0, if_true, if_false, ite_self, xu_s, xu_o, xu_j, xu_l, Nat.reduceEqDiff, not_false_eq_true, show (gr = σ.1 16 0 c) = True from eq_true hE]
            try rfl
          rw [e1]
          show Rel (t + 1) (S_MO_item (xuI (xuI σ 1 0 c gr) 2 0 c le) (nI c) gr le).2 ∧ S_MO_thrown (S_MO_item (xuI (xuI σ 1 0 c gr) 2 0 c le) (nI c) gr le).2 = 0
          rw [e2]
          have hgw : ∀ v j : Nat, v < 16 → j < 240 → gw (xuI (xuI (xuI (xuI (xuI σ 1 0 c gr) 2 0 c le) 15 0 0 0) 16 0 c gr) 17 0 c le) v j = gw σ v j := fun v j hv hj => by
            show (((xuI (xuI (xuI (xuI (xuI σ 1 0 c gr) 2 0 c le) 15 0 0 0) 16 0 c gr) 17 0 c le)).1 16 0 (j % 30)).toInt * (σ.1 28 0 (240 * v + j)).toInt = (σ.1 16 0 (j % 30)).toInt * (σ.1 28 0 (240 * v + j)).toInt
            by_cases q : j % 30 = c
            · have e5 : ((xuI (xuI (xuI (xuI (xuI σ 1 0 c gr) 2 0 c le) 15 0 0 0) 16 0 c gr) 17 0 c le)).1 16 0 (j % 30) = gr := by simp [xuI, q]
              rw [e5]
              rw [hE, q]
            · have e5 : ((xuI (xuI (xuI (xuI (xuI σ 1 0 c gr) 2 0 c le) 15 0 0 0) 16 0 c gr) 17 0 c le)).1 16 0 (j % 30) = σ.1 16 0 (j % 30) := by simp [xuI, q]
              rw [e5]
          refine ⟨?_, rfl⟩
          have h1 := inb_iff.mp h1
          have n0 : (0 : Int32).toInt = 0 := rfl
          have n1 : (500000 : Int32).toInt = 500000 := rfl
          refine ⟨h.nv, h.nvr, h.dy, h.sh, h.dyr, h.shr, ?we, ?wer, ?le, h.st, h.str, h.ne, h.ner, h.co, h.cor, h.coz, h.kd, h.kdr, h.ba, h.bar, h.fr, h.frr, h.re, h.rer, h.pl, h.plr, h.se, h.ser, h.en, h.enz, h.enr, h.bt, h.btz, h.ck, h.ckz, ?gr, ?mo, h.rw, ⟨h.rwr.1, ?rwr⟩, h.to⟩
          case we =>
            intro v hv
            by_cases q : v = c
            · simp [xuI, q]
            · simpa [xuI, q] using h.we v hv
          case wer =>
            intro v hv
            by_cases q : v = c
            · simp only [xuI, q]
              simp
              omega
            · simpa [xuI, q] using h.wer v hv
          case le =>
            intro v hv
            by_cases q : v = c
            · simp [xuI, q]
            · simpa [xuI, q] using h.le v hv
          case gr =>
            intro v hv
            exact (h.gr v hv).trans (isum_congr fun j hj => (hgw v j hv hj).symm)
          case mo =>
            intro v hv
            refine (h.mo v hv).trans (isum_congr fun j hj => ?_)
            show gw σ v j * (σ.1 24 0 (8 * v + j / 30)).toInt = gw _ v j * (σ.1 24 0 (8 * v + j / 30)).toInt
            rw [hgw v j hv hj]
          case rwr =>
            have := h.rwr.2
            show (σ.1 15 0 18).toInt ≤ _
            omega
        · by_cases hn : now_ σ c
          · have e1 : S_LW_item σ (nI c) gr le = (0, (xuI (xuI σ 1 0 c gr) 2 0 c le)) := by
              simp only [ix_1 (show c < 2 ^ 31 by omega), S_LW_item, S_LC_item, ri_p _ hi, rr_p _ h1, rr_p _ h2, xbp_l, xbp_r, xca_l, xca_r, i1n0, if_true, if_false, ite_self, xu_s, xu_o, xu_j, xu_l, Nat.reduceEqDiff, not_false_eq_true, es, hE, aw_p h hc0 hn]
              try rfl
            have e2 : S_MO_item (xuI (xuI σ 1 0 c gr) 2 0 c le) (nI c) gr le = ((), (xuI (xuI (xuI (xuI (xuI σ 1 0 c gr) 2 0 c le) 15 0 0 0) 16 0 c gr) 17 0 c le)) := by
              simp only [ix_1 (show c < 2 ^ 31 by omega), S_MO_item, ii_p _ hi, in_p _ h1, in_p _ h2, thr_0, xbp_l, xbp_r, xca_l, xca_r, i1n0, if_true, if_false, ite_self, xu_s, xu_o, xu_j, xu_l, Nat.reduceEqDiff, not_false_eq_true, hE, sm_p (σ := (xuI (xuI σ 1 0 c gr) 2 0 c le)) hc0 hn]
              try rfl
            rw [e1]
            show Rel (t + 1) (S_MO_item (xuI (xuI σ 1 0 c gr) 2 0 c le) (nI c) gr le).2 ∧ S_MO_thrown (S_MO_item (xuI (xuI σ 1 0 c gr) 2 0 c le) (nI c) gr le).2 = 0
            rw [e2]
            have hgw : ∀ v j : Nat, v < 16 → j < 240 → gw (xuI (xuI (xuI (xuI (xuI σ 1 0 c gr) 2 0 c le) 15 0 0 0) 16 0 c gr) 17 0 c le) v j = gw σ v j := fun v j hv hj => by
              show (((xuI (xuI (xuI (xuI (xuI σ 1 0 c gr) 2 0 c le) 15 0 0 0) 16 0 c gr) 17 0 c le)).1 16 0 (j % 30)).toInt * (σ.1 28 0 (240 * v + j)).toInt = (σ.1 16 0 (j % 30)).toInt * (σ.1 28 0 (240 * v + j)).toInt
              by_cases q : j % 30 = c
              · have e5 : ((xuI (xuI (xuI (xuI (xuI σ 1 0 c gr) 2 0 c le) 15 0 0 0) 16 0 c gr) 17 0 c le)).1 16 0 (j % 30) = gr := by simp [xuI, q]
                rw [e5]
                have e6 := (i_z (h.cor _ (by omega)).1).mp (hn.2 (8 * v + j / 30) (by omega))
                rw [show 240 * v + j = 30 * (8 * v + j / 30) + c by omega, e6]
                exact (Int.mul_zero _).trans (Int.mul_zero _).symm
              · have e5 : ((xuI (xuI (xuI (xuI (xuI σ 1 0 c gr) 2 0 c le) 15 0 0 0) 16 0 c gr) 17 0 c le)).1 16 0 (j % 30) = σ.1 16 0 (j % 30) := by simp [xuI, q]
                rw [e5]
            refine ⟨?_, rfl⟩
            have h1 := inb_iff.mp h1
            have n0 : (0 : Int32).toInt = 0 := rfl
            have n1 : (500000 : Int32).toInt = 500000 := rfl
            refine ⟨h.nv, h.nvr, h.dy, h.sh, h.dyr, h.shr, ?we, ?wer, ?le, h.st, h.str, h.ne, h.ner, h.co, h.cor, h.coz, h.kd, h.kdr, h.ba, h.bar, h.fr, h.frr, h.re, h.rer, h.pl, h.plr, h.se, h.ser, h.en, h.enz, h.enr, h.bt, h.btz, h.ck, h.ckz, ?gr, ?mo, h.rw, ⟨h.rwr.1, ?rwr⟩, h.to⟩
            case we =>
              intro v hv
              by_cases q : v = c
              · simp [xuI, q]
              · simpa [xuI, q] using h.we v hv
            case wer =>
              intro v hv
              by_cases q : v = c
              · simp only [xuI, q]
                simp
                omega
              · simpa [xuI, q] using h.wer v hv
            case le =>
              intro v hv
              by_cases q : v = c
              · simp [xuI, q]
              · simpa [xuI, q] using h.le v hv
            case gr =>
              intro v hv
              exact (h.gr v hv).trans (isum_congr fun j hj => (hgw v j hv hj).symm)
            case mo =>
              intro v hv
              refine (h.mo v hv).trans (isum_congr fun j hj => ?_)
              show gw σ v j * (σ.1 24 0 (8 * v + j / 30)).toInt = gw _ v j * (σ.1 24 0 (8 * v + j / 30)).toInt
              rw [hgw v j hv hj]
            case rwr =>
              have := h.rwr.2
              show (σ.1 15 0 18).toInt ≤ _
              omega
          · have e1 : S_LW_item σ (nI c) gr le = (3, σ) := by
              simp only [ix_1 (show c < 2 ^ 31 by omega), S_LW_item, S_LC_item, ri_p _ hi, rr_p _ h1, rr_p _ h2, xbp_l, xbp_r, xca_l, xca_r, i1n0, if_true, if_false, ite_self, es, hE, aw_n h hc0 hn, show ("java/lang/IllegalStateException" = "java/lang/IllegalArgumentException") = False from ex_ca, show ("java/lang/IllegalStateException" = "java/lang/IndexOutOfBoundsException") = False from ex_cb]
              try rfl
            have e2 : S_MO_item σ (nI c) gr le = ((), xuI σ 15 0 0 3) := by
              simp only [ix_1 (show c < 2 ^ 31 by omega), S_MO_item, ii_p _ hi, in_p _ h1, in_p _ h2, thr_0, xbp_l, xbp_r, xca_l, xca_r, i1n0, if_true, if_false, ite_self, hE, sm_n hc0 hn, thr_3]
              try rfl
            rw [e1]
            show Rel (t + 1) (S_MO_item σ (nI c) gr le).2 ∧ S_MO_thrown (S_MO_item σ (nI c) gr le).2 = 3
            rw [e2]
            exact ⟨h.thr 3, rfl⟩
      · have e1 : S_LW_item σ (nI c) gr le = (2, σ) := by
          simp only [ix_1 (show c < 2 ^ 31 by omega), S_LW_item, S_LC_item, ri_p _ hi, rr_p _ h1, rr_n _ h2, ex_ba, ex_bb, xbp_l, xbp_r, xca_l, xca_r, i1n0, if_true, if_false, ite_self]
          try rfl
        have e2 : S_MO_item σ (nI c) gr le = ((), xuI σ 15 0 0 2) := by
          simp only [ix_1 (show c < 2 ^ 31 by omega), S_MO_item, ii_p _ hi, in_p _ h1, in_n _ h2, thr_2, xbp_l, xbp_r, xca_l, xca_r, i1n0, if_true, if_false, ite_self]
          try rfl
        rw [e1]
        show Rel (t + 1) (S_MO_item σ (nI c) gr le).2 ∧ S_MO_thrown (S_MO_item σ (nI c) gr le).2 = 2
        rw [e2]
        exact ⟨h.thr 2, rfl⟩
    · have e1 : S_LW_item σ (nI c) gr le = (2, σ) := by
        simp only [ix_1 (show c < 2 ^ 31 by omega), S_LW_item, S_LC_item, ri_p _ hi, rr_n _ h1, ex_ba, ex_bb, xbp_l, xbp_r, xca_l, xca_r, i1n0, if_true, if_false, ite_self]
        try rfl
      have e2 : S_MO_item σ (nI c) gr le = ((), xuI σ 15 0 0 2) := by
        simp only [ix_1 (show c < 2 ^ 31 by omega), S_MO_item, ii_p _ hi, in_n _ h1, thr_2, xbp_l, xbp_r, xca_l, xca_r, i1n0, if_true, if_false, ite_self]
        try rfl
      rw [e1]
      show Rel (t + 1) (S_MO_item σ (nI c) gr le).2 ∧ S_MO_thrown (S_MO_item σ (nI c) gr le).2 = 2
      rw [e2]
      exact ⟨h.thr 2, rfl⟩
  · have e1 : S_LW_item σ it gr le = (1, σ) := by
      simp only [S_LW_item, S_LC_item, ri_n _ hi, ex_aa, xbp_l, xbp_r, xca_l, xca_r, i1n0, if_true, if_false, ite_self]
      try rfl
    have e2 : S_MO_item σ it gr le = ((), xuI σ 15 0 0 1) := by
      simp only [S_MO_item, ii_n _ hi, thr_1, xbp_l, xbp_r, xca_l, xca_r, i1n0, if_true, if_false, ite_self]
      try rfl
    rw [e1]
    show Rel (t + 1) (S_MO_item σ it gr le).2 ∧ S_MO_thrown (S_MO_item σ it gr le).2 = 1
    rw [e2]
    exact ⟨h.thr 1, rfl⟩
