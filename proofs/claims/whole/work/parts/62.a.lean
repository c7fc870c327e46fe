set_option maxHeartbeats 8000000 in
set_option maxRecDepth 100000 in
theorem law_loop {p : Program} {l : Launch} {e : Env} {s : State} {m : MethodId} {below : List Frame} {meth : Method} {c : Code} {b L : Nat} {xs : Nat → Int32} {D : va_G} {dA : Nat → ClassId} (h0 : XS0 l s #[Value.ref b] D dA) (C0 : lw_At p s m meth c b L xs) (hL2 : L ≤ 3072) : ∀ (n t : Nat), t + n = 513 → t < 513 → ∀ (σ : XS) (H : Heap) (locs : List Loc) (ls : Array Slot), Rel t σ → XWs D dA s σ H → va_S (xAm s) s.heap H locs → lv_has ls 8 [(4, .int (nI (6 * t))), (3, .ref (xB s + XA 31 0)), (2, .ref (xB s + XA 15 0)), (1, .ref (xB s + XA 0 0)), (0, .ref b)] →
    W p l e room_1 s m #[Value.ref b] below meth c H locs (127 + 9 * t) (14114 + 54 * t) (lw_Z below #[Value.ref b] s) (F0 m 23 ls []) := by
  have C0' := C0
  obtain ⟨hx, hb, hr, hml, hown, htsL, hXs, hbl, hlocks, hgv⟩ := C0'
  have hbA : ¬ xAm s b := Nat.not_le.mpr hbl
  intro n
  induction n with
  | zero => intro t h1 h2; omega
  | succ n ih =>
  intro t h1 h2 σ H locs ls h hX hS hl
  refine lv_iload hx hb d_LW_law_23 (lv_at hl 0 rfl) ?_
  refine lv_aload_n hx hb d_LW_law_25 rfl (lv_at hl 4 rfl) ?_
  refine va_slen hx hb hXs hbl hbA hS d_LW_law_26 ?_
  refine lv_bipush (v := 6) hx hb d_LW_law_27 (by decide) ?_
  refine lv_isub hx hb d_LW_law_29 ?_
  have e6 : (Int32.ofNat L - 6).toInt = (L : Int) - 6 := by
    have eL : (Int32.ofNat L).toInt = L := nI_toInt (n := L) (by omega)
    have n6 : (6 : Int32).toInt = 6 := rfl
    rw [i_sub (by rw [eL]; omega) (by rw [eL]; omega), eL]
    rfl
  refine lv_icmp_gt (tgt := 1617) hx hb d_LW_law_30 (by decide) (fun c1 => ?_) (fun c1 => ?_)
  · refine lv_iconst (v := 1) hx hb d_LW_law_1617 (by decide) ?_
    refine va_forget (fun q hq => hS.2.2 q hq) ?_
    refine W.widen (k := 601024) (n := 7293034) (by omega) (by omega) ?_
    exact lw_ret hx hb hr hlocks d_LW_law_1618
  rw [Int32.lt_iff_toInt_lt, e6, nI_toInt (by omega)] at c1
  refine lv_aload_n hx hb d_LW_law_33 rfl (lv_at hl 4 rfl) ?_
  refine lv_iload hx hb d_LW_law_34 (lv_at hl 0 rfl) ?_
  refine va_sld hx hb hXs hbl hbA hS (vp_in_nI (show 6 * t < L by omega) (by omega)) d_LW_law_36 ?_
  refine lv_bipush (v := 31) hx hb d_LW_law_37 (by decide) ?_
  refine lv_iand hx hb d_LW_law_39 ?_
  obtain ⟨j, hj, ej⟩ := pk_andE (xs (nI (6 * t)).toNatClampNeg) (m := 31) 5 rfl
  rw [ej]
  by_cases q0 : j = 0
  · subst q0
    refine lv_tableIn (tgt := 144) hx hb d_LW_law_40 (by decide) (by decide) (off := 104) (by decide) (by decide) ?_
    exact k_vehicle h0 C0 (by omega) (by omega) hL2 h hX hS hl (fun σ' H' locs' ls' g1 g2 g3 g4 => ih (t + 1) (by omega) (by omega) σ' H' locs' ls' g1 g2 g3 g4)
  by_cases q1 : j = 1
  · subst q1
    refine lv_tableIn (tgt := 236) hx hb d_LW_law_40 (by decide) (by decide) (off := 196) (by decide) (by decide) ?_
    exact k_limits h0 C0 (by omega) (by omega) hL2 h hX hS hl (fun σ' H' locs' ls' g1 g2 g3 g4 => ih (t + 1) (by omega) (by omega) σ' H' locs' ls' g1 g2 g3 g4)
  by_cases q2 : j = 2
  · subst q2
    refine lv_tableIn (tgt := 296) hx hb d_LW_law_40 (by decide) (by decide) (off := 256) (by decide) (by decide) ?_
    exact k_place h0 C0 (by omega) (by omega) hL2 h hX hS hl (fun σ' H' locs' ls' g1 g2 g3 g4 => ih (t + 1) (by omega) (by omega) σ' H' locs' ls' g1 g2 g3 g4)
  by_cases q3 : j = 3
  · subst q3
    refine lv_tableIn (tgt := 356) hx hb d_LW_law_40 (by decide) (by decide) (off := 316) (by decide) (by decide) ?_
    exact k_item h0 C0 (by omega) (by omega) hL2 h hX hS hl (fun σ' H' locs' ls' g1 g2 g3 g4 => ih (t + 1) (by omega) (by omega) σ' H' locs' ls' g1 g2 g3 g4)
  by_cases q4 : j = 4
  · subst q4
    refine lv_tableIn (tgt := 416) hx hb d_LW_law_40 (by decide) (by decide) (off := 376) (by decide) (by decide) ?_
    exact k_list h0 C0 (by omega) (by omega) hL2 h hX hS hl (fun σ' H' locs' ls' g1 g2 g3 g4 => ih (t + 1) (by omega) (by omega) σ' H' locs' ls' g1 g2 g3 g4)
  by_cases q5 : j = 5
  · subst q5
    refine lv_tableIn (tgt := 488) hx hb d_LW_law_40 (by decide) (by decide) (off := 448) (by decide) (by decide) ?_
    exact k_stock h0 C0 (by omega) (by omega) hL2 h hX hS hl (fun σ' H' locs' ls' g1 g2 g3 g4 => ih (t + 1) (by omega) (by omega) σ' H' locs' ls' g1 g2 g3 g4)
  by_cases q6 : j = 6
  · subst q6
    refine lv_tableIn (tgt := 556) hx hb d_LW_law_40 (by decide) (by decide) (off := 516) (by decide) (by decide) ?_
    exact k_put h0 C0 (by omega) (by omega) hL2 h hX hS hl (fun σ' H' locs' ls' g1 g2 g3 g4 => ih (t + 1) (by omega) (by omega) σ' H' locs' ls' g1 g2 g3 g4)
  by_cases q7 : j = 7
  · subst q7
    refine lv_tableIn (tgt := 648) hx hb d_LW_law_40 (by decide) (by decide) (off := 608) (by decide) (by decide) ?_
    exact k_use h0 C0 (by omega) (by omega) hL2 h hX hS hl (fun σ' H' locs' ls' g1 g2 g3 g4 => ih (t + 1) (by omega) (by omega) σ' H' locs' ls' g1 g2 g3 g4)
  by_cases q8 : j = 8
  · subst q8
    refine lv_tableIn (tgt := 740) hx hb d_LW_law_40 (by decide) (by decide) (off := 700) (by decide) (by decide) ?_
    exact k_replace h0 C0 (by omega) (by omega) hL2 h hX hS hl (fun σ' H' locs' ls' g1 g2 g3 g4 => ih (t + 1) (by omega) (by omega) σ' H' locs' ls' g1 g2 g3 g4)
  by_cases q9 : j = 9
  · subst q9
    refine lv_tableIn (tgt := 796) hx hb d_LW_law_40 (by decide) (by decide) (off := 756) (by decide) (by decide) ?_
    exact k_swap h0 C0 (by omega) (by omega) hL2 h hX hS hl (fun σ' H' locs' ls' g1 g2 g3 g4 => ih (t + 1) (by omega) (by omega) σ' H' locs' ls' g1 g2 g3 g4)
  by_cases q10 : j = 10
  · subst q10
    refine lv_tableIn (tgt := 880) hx hb d_LW_law_40 (by decide) (by decide) (off := 840) (by decide) (by decide) ?_
    exact k_ends h0 C0 (by omega) (by omega) hL2 h hX hS hl (fun σ' H' locs' ls' g1 g2 g3 g4 => ih (t + 1) (by omega) (by omega) σ' H' locs' ls' g1 g2 g3 g4)
  by_cases q11 : j = 11
  · subst q11
    refine lv_tableIn (tgt := 940) hx hb d_LW_law_40 (by decide) (by decide) (off := 900) (by decide) (by decide) ?_
    exact k_battery h0 C0 (by omega) (by omega) hL2 h hX hS hl (fun σ' H' locs' ls' g1 g2 g3 g4 => ih (t + 1) (by omega) (by omega) σ' H' locs' ls' g1 g2 g3 g4)
  by_cases q12 : j = 12
  · subst q12
    refine lv_tableIn (tgt := 1000) hx hb d_LW_law_40 (by decide) (by decide) (off := 960) (by decide) (by decide) ?_
    exact k_seal h0 C0 (by omega) (by omega) hL2 h hX hS hl (fun σ' H' locs' ls' g1 g2 g3 g4 => ih (t + 1) (by omega) (by omega) σ' H' locs' ls' g1 g2 g3 g4)
  by_cases q13 : j = 13
  · subst q13
    refine lv_tableIn (tgt := 1076) hx hb d_LW_law_40 (by decide) (by decide) (off := 1036) (by decide) (by decide) ?_
    exact k_check h0 C0 (by omega) (by omega) hL2 h hX hS hl (fun σ' H' locs' ls' g1 g2 g3 g4 => ih (t + 1) (by omega) (by omega) σ' H' locs' ls' g1 g2 g3 g4)
  by_cases q14 : j = 14
  · subst q14
    refine lv_tableIn (tgt := 1112) hx hb d_LW_law_40 (by decide) (by decide) (off := 1072) (by decide) (by decide) ?_
    exact k_now h0 C0 (by omega) (by omega) hL2 h hX hS hl (fun σ' H' locs' ls' g1 g2 g3 g4 => ih (t + 1) (by omega) (by omega) σ' H' locs' ls' g1 g2 g3 g4)
  by_cases q15 : j = 15
  · subst q15
    refine lv_tableIn (tgt := 1160) hx hb d_LW_law_40 (by decide) (by decide) (off := 1120) (by decide) (by decide) ?_
    exact k_ready h0 C0 (by omega) (by omega) hL2 h hX hS hl (fun σ' H' locs' ls' g1 g2 g3 g4 => ih (t + 1) (by omega) (by omega) σ' H' locs' ls' g1 g2 g3 g4)
  by_cases q16 : j = 16
  · subst q16
    refine lv_tableIn (tgt := 1216) hx hb d_LW_law_40 (by decide) (by decide) (off := 1176) (by decide) (by decide) ?_
    exact k_missing h0 C0 (by omega) (by omega) hL2 h hX hS hl (fun σ' H' locs' ls' g1 g2 g3 g4 => ih (t + 1) (by omega) (by omega) σ' H' locs' ls' g1 g2 g3 g4)
  by_cases q17 : j = 17
  · subst q17
    refine lv_tableIn (tgt := 1284) hx hb d_LW_law_40 (by decide) (by decide) (off := 1244) (by decide) (by decide) ?_
    exact k_share h0 C0 (by omega) (by omega) hL2 h hX hS hl (fun σ' H' locs' ls' g1 g2 g3 g4 => ih (t + 1) (by omega) (by omega) σ' H' locs' ls' g1 g2 g3 g4)
  by_cases q18 : j = 18
  · subst q18
    refine lv_tableIn (tgt := 1340) hx hb d_LW_law_40 (by decide) (by decide) (off := 1300) (by decide) (by decide) ?_
    exact k_axle h0 C0 (by omega) (by omega) hL2 h hX hS hl (fun σ' H' locs' ls' g1 g2 g3 g4 => ih (t + 1) (by omega) (by omega) σ' H' locs' ls' g1 g2 g3 g4)
  by_cases q19 : j = 19
  · subst q19
    refine lv_tableIn (tgt := 1407) hx hb d_LW_law_40 (by decide) (by decide) (off := 1367) (by decide) (by decide) ?_
    exact k_row h0 C0 (by omega) (by omega) hL2 h hX hS hl (fun σ' H' locs' ls' g1 g2 g3 g4 => ih (t + 1) (by omega) (by omega) σ' H' locs' ls' g1 g2 g3 g4)
  by_cases q20 : j = 20
  · subst q20
    refine lv_tableIn (tgt := 1475) hx hb d_LW_law_40 (by decide) (by decide) (off := 1435) (by decide) (by decide) ?_
    exact k_has h0 C0 (by omega) (by omega) hL2 h hX hS hl (fun σ' H' locs' ls' g1 g2 g3 g4 => ih (t + 1) (by omega) (by omega) σ' H' locs' ls' g1 g2 g3 g4)
  by_cases q21 : j = 21
  · subst q21
    refine lv_tableIn (tgt := 1555) hx hb d_LW_law_40 (by decide) (by decide) (off := 1515) (by decide) (by decide) ?_
    exact k_stocked h0 C0 (by omega) (by omega) hL2 h hX hS hl (fun σ' H' locs' ls' g1 g2 g3 g4 => ih (t + 1) (by omega) (by omega) σ' H' locs' ls' g1 g2 g3 g4)
  refine lv_tableOut (tgt := 1611) hx hb d_LW_law_40 (Or.inr (by rw [nI_toInt (by omega)]; omega)) (by decide) ?_
  refine W.widen (k := 127 + 9 * (t + 1)) (n := 14114 + 54 * (t + 1)) (by omega) (by omega) ?_
  refine lv_iinc (v := nI (6 * (t + 1))) (lv' := [(4, .int (nI (6 * (t + 1)))), (3, .ref (xB s + XA 31 0)), (2, .ref (xB s + XA 15 0)), (1, .ref (xB s + XA 0 0)), (0, .ref b)]) hx hb d_LW_law_1611 hl (k := 0) rfl (by show nI (6 * t) + nI 6 = _; rw [nI_add]; exact congrArg nI (by omega)) (by decide) rfl (fun ls hl => ?_)
  refine lv_goto (tgt := 23) hx hb d_LW_law_1614 (by decide) ?_
  have h5 := h.thr (σ.1 15 0 0)
  have h6 : Rel (t + 1) σ := by
    have e : xuI σ 15 0 0 (σ.1 15 0 0) = σ := by
      refine Prod.ext ?_ rfl
      funext r i k
      show (if r = 15 ∧ k = 0 ∧ i = 0 then σ.1 15 0 0 else σ.1 r i k) = σ.1 r i k
      by_cases z : r = 15 ∧ k = 0 ∧ i = 0
      · rw [if_pos z]
        obtain ⟨rfl, rfl, rfl⟩ := z
        rfl
      · rw [if_neg z]
    rw [e] at h5
    exact h5
  exact ih (t + 1) (by omega) (by omega) σ H locs ls h6 hX hS hl

set_option maxHeartbeats 8000000 in
set_option maxRecDepth 100000 in
theorem whole_start {p : Program} {e : Env} {s : State} {m : MethodId} {below : List Frame} {meth : Method} {c : Code} (l : Launch) (hfl : l.flags = flags0) {b L : Nat} {xs : Nat → Int32} (hL : L ≤ 3072) (C0 : lw_At p s m meth c b L xs) : W p l e room_1 s m #[Value.ref b] below meth c s.heap [] 0 0 (lw_Z below #[Value.ref b] s) (entryFrame m ([Value.ref b] : List Value).toArray 8) := by
  have C0' := C0
  obtain ⟨hx, hb, hr, hml, hown, htsL, hXs, hbl, hlocks, hgv⟩ := C0'
  obtain ⟨D, dA, h0⟩ := xs0_mk hfl htsL hgv
  have hW0 : s.WarmedH s.vm := State.WarmedH.refl s
  have hts := xs_w (args := #[Value.ref b]) h0 hW0
  have hK := xs_K h0 hW0
  have hv0 := lv_entry ([Value.ref b]) (n := 8) (Nat.le_of_ble_eq_true rfl)
  rw [lg_entry_eq]
  generalize (lg_sl ([Value.ref b]) ++ List.replicate (8 - (lg_sl ([Value.ref b])).length) Slot.unset).toArray = ls at hv0 ⊢
  have hl : lv_has ls 8 [(0, .ref b)] := hv0
  have h : XK D s 0 (xl dA (xB s) [.null, .null, .null, .null, .null, .null, .int 0, .int 0, .int 0] 0) s.heap [] := ⟨fun r i hi => absurd ((cn_iff _ _ _).mp hi).2 (Nat.not_lt_zero _), rfl, va_S.rf⟩
  refine xk_new (C := R_LC) (T := F_LC) (N := 9) hx hb hts hi_LC t_LC t_LC_ok hown (hts _ w_48) (hts _ w_49) (hts _ w_34) hK h 0 0 1 rfl (by decide) rfl rfl (fs := [.null, .null, .null, .null, .null, .null, .int 0, .int 0, .int 0]) (by decide) (Nat.le_of_ble_eq_true rfl) (Nat.le_of_ble_eq_true rfl) (E' := (xl dA (xB s) [.null, .null, .null, .null, .null, .null, .int 0, .int 0, .int 0] 0)) rfl (fun _ _ _ => rfl) d_LW_law_0 (fun H h => ?_)
  refine lv_dup hx hb d_LW_law_3 rfl ?_
  refine xc_k (rest := [.ref (xB s + XA 0 0)]) (x_invI (b := xB s + XA 0 0) (argsL := []) hx hb hown rfl (hts _ w_50) (hts _ w_51) (hts _ w_52) ⟨by decide, by decide⟩ rfl rfl rfl d_LW_law_4) (c_LC_init h0) (xs_cw h0 hW0 m_52) (hts _ w_34) ⟨rfl, rfl, Nat.le_of_ble_eq_true rfl, Nat.le_of_ble_eq_true rfl⟩ (hl.1.trans hml.symm) (by rw [hb]; exact d_LW_law_4) (Nat.le_of_ble_eq_true rfl) ⟨Nat.le_of_ble_eq_true rfl, Nat.le_of_ble_eq_true rfl⟩ h hW0 (fun H locs h => ?_)
  refine lv_astore_n (lv' := [(1, .ref (xB s + XA 0 0)), (0, .ref b)]) hx hb d_LW_law_7 rfl hl (by decide) rfl (fun ls hl => ?_)
  refine xk_new (C := R_MO) (T := F_MO) (N := 20) hx hb hts hi_MO t_MO t_MO_ok hown (hts _ w_589) (hts _ w_590) (hts _ w_38) hK h 15 0 111 rfl (by decide) rfl rfl (fs := [.int 0, .int 0, .int 0, .null, .null, .null, .int 0, .null, .null, .null, .null, .null, .null, .null, .null, .null, .null, .null, .int 0, .null]) (by decide) (Nat.le_of_ble_eq_true rfl) (Nat.le_of_ble_eq_true rfl) (E' := (xo (XE dA (xB s) xI0) 15 0 (.inr (3, [.int 0, .int 0, .int 0, .null, .null, .null, .int 0, .null, .null, .null, .null, .null, .null, .null, .null, .null, .null, .null, .int 0, .null])))) rfl (xo_new rfl) d_LW_law_8 (fun H h => ?_)
  refine lv_dup hx hb d_LW_law_11 rfl ?_
  refine xc_k (rest := [.ref (xB s + XA 15 0)]) (x_invI (b := xB s + XA 15 0) (argsL := []) hx hb hown rfl (hts _ w_591) (hts _ w_592) (hts _ w_593) ⟨by decide, by decide⟩ rfl rfl rfl d_LW_law_12) (c_MO_init h0) (xs_cw h0 hW0 m_593) (hts _ w_38) ⟨rfl, rfl, Nat.le_of_ble_eq_true rfl, Nat.le_of_ble_eq_true rfl⟩ (hl.1.trans hml.symm) (by rw [hb]; exact d_LW_law_12) (Nat.le_of_ble_eq_true rfl) ⟨Nat.le_of_ble_eq_true rfl, Nat.le_of_ble_eq_true rfl⟩ h hW0 (fun H locs h => ?_)
  refine lv_astore_n (lv' := [(2, .ref (xB s + XA 15 0)), (1, .ref (xB s + XA 0 0)), (0, .ref b)]) hx hb d_LW_law_15 rfl hl (by decide) rfl (fun ls hl => ?_)
  refine lv_iconst (v := 1) hx hb d_LW_law_16 (by decide) ?_
  refine xk_newa hx hb (ty := .long) (x_ac hW0.alike (h0.2.1 _ m_814)) hK 2 rfl rfl (fun q => q) h 31 0 127 rfl (by decide) rfl (N := 1) (a0 := (1, .inr (.inl fun _ => 0))) (fun _ => rfl) (by decide) rfl (by decide) (Nat.le_of_ble_eq_true rfl) (Nat.le_of_ble_eq_true rfl) (E' := XE dA (xB s) xI0) rfl (fun _ _ _ => rfl) d_LW_law_17 (fun H h => ?_)
  refine lv_astore_n (lv' := [(3, .ref (xB s + XA 31 0)), (2, .ref (xB s + XA 15 0)), (1, .ref (xB s + XA 0 0)), (0, .ref b)]) hx hb d_LW_law_19 rfl hl (by decide) rfl (fun ls hl => ?_)
  refine lv_iconst (v := 0) hx hb d_LW_law_20 (by decide) ?_
  refine lv_istore (lv' := [(4, .int (nI (6 * 0))), (3, .ref (xB s + XA 31 0)), (2, .ref (xB s + XA 15 0)), (1, .ref (xB s + XA 0 0)), (0, .ref b)]) hx hb d_LW_law_21 hl (by decide) rfl (fun ls hl => ?_)
  refine W.widen (k := 127 + 9 * 0) (n := 14114 + 54 * 0) (Nat.le_of_ble_eq_true rfl) (Nat.le_of_ble_eq_true rfl) ?_
  exact law_loop h0 C0 hL 513 0 rfl (by decide) xI0 H _ ls Rel0 (xk_full h) h.2.2 hl
