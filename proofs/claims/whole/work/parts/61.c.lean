set_option maxHeartbeats 8000000 in
set_option maxRecDepth 100000 in
theorem k_battery {p : Program} {l : Launch} {e : Env} {s : State} {m : MethodId} {below : List Frame} {meth : Method} {c : Code} {b L : Nat} {xs : Nat → Int32} {D : va_G} {dA : Nat → ClassId} (h0 : XS0 l s #[Value.ref b] D dA) (C0 : lw_At p s m meth c b L xs) {t : Nat} (ht : t < 512) (hL : 6 * t + 6 ≤ L) (hL2 : L ≤ 3072) {σ : XS} (h : Rel t σ) {H : Heap} {locs : List Loc} (hX : XWs D dA s σ H) (hS : va_S (xAm s) s.heap H locs) {ls : Array Slot} (hl : lv_has ls 8 [(4, .int (nI (6 * t))), (3, .ref (xB s + XA 31 0)), (2, .ref (xB s + XA 15 0)), (1, .ref (xB s + XA 0 0)), (0, .ref b)])
    (ih : ∀ (σ' : XS) (H' : Heap) (locs' : List Loc) (ls' : Array Slot), Rel (t + 1) σ' → XWs D dA s σ' H' → va_S (xAm s) s.heap H' locs' → lv_has ls' 8 [(4, .int (nI (6 * (t + 1)))), (3, .ref (xB s + XA 31 0)), (2, .ref (xB s + XA 15 0)), (1, .ref (xB s + XA 0 0)), (0, .ref b)] → W p l e room_1 s m #[Value.ref b] below meth c H' locs' (127 + 9 * (t + 1)) (14114 + 54 * (t + 1)) (lw_Z below #[Value.ref b] s) (F0 m 23 ls' [])) :
    W p l e room_1 s m #[Value.ref b] below meth c H locs (127 + 9 * t) (14114 + 54 * t) (lw_Z below #[Value.ref b] s) (F0 m 940 ls []) := by
  obtain ⟨hx, hb, hr, hml, hown, htsL, hXs, hbl, hlocks, hgv⟩ := C0
  have hbA : ¬ xAm s b := Nat.not_le.mpr hbl
  have hW0 : s.WarmedH s.vm := State.WarmedH.refl s
  have hts := xs_w (args := #[Value.ref b]) h0 hW0
  have hK := xs_K h0 hW0
  refine lv_aload_n hx hb d_LW_law_940 rfl (lv_at hl 3 rfl) ?_
  refine lv_aload_n hx hb d_LW_law_941 rfl (lv_at hl 4 rfl) ?_
  refine lv_iload hx hb d_LW_law_942 (lv_at hl 0 rfl) ?_
  refine lv_iconst (v := 1) hx hb d_LW_law_944 (by decide) ?_
  refine lv_iadd hx hb d_LW_law_945 ?_
  refine va_sld hx hb hXs hbl hbA hS (sc_in (k := 1) (show 6 * t + 1 < L by omega) (by omega)) d_LW_law_946 ?_
  refine lv_aload_n hx hb d_LW_law_947 rfl (lv_at hl 4 rfl) ?_
  refine lv_iload hx hb d_LW_law_948 (lv_at hl 0 rfl) ?_
  refine lv_iconst (v := 2) hx hb d_LW_law_950 (by decide) ?_
  refine lv_iadd hx hb d_LW_law_951 ?_
  refine va_sld hx hb hXs hbl hbA hS (sc_in (k := 2) (show 6 * t + 2 < L by omega) (by omega)) d_LW_law_952 ?_
  refine lv_aload_n hx hb d_LW_law_953 rfl (lv_at hl 4 rfl) ?_
  refine lv_iload hx hb d_LW_law_954 (lv_at hl 0 rfl) ?_
  refine lv_iconst (v := 3) hx hb d_LW_law_956 (by decide) ?_
  refine lv_iadd hx hb d_LW_law_957 ?_
  refine va_sld hx hb hXs hbl hbA hS (sc_in (k := 3) (show 6 * t + 3 < L by omega) (by omega)) d_LW_law_958 ?_
  refine xc_s (rest := []) (x_invS (argsL := [.ref (xB s + XA 0 0), .int (xs ((nI (6 * t)) + (1 : Int32)).toNatClampNeg), .int (xs ((nI (6 * t)) + (2 : Int32)).toNatClampNeg), .int (xs ((nI (6 * t)) + (3 : Int32)).toNatClampNeg)]) hx hb hown (hts _ w_451) (hts _ w_452) (hts _ w_33) (x_codeW (hts _ w_453)) ⟨by decide, by decide⟩ rfl rfl rfl d_LW_law_959) (c_LW_battery h0 σ (xs ((nI (6 * t)) + (1 : Int32)).toNatClampNeg) (xs ((nI (6 * t)) + (2 : Int32)).toNatClampNeg) (xs ((nI (6 * t)) + (3 : Int32)).toNatClampNeg) (h.xok (by omega))) (xs_cwW h0 hW0 m_453) (hts _ w_33) ⟨rfl, rfl, Nat.le_of_ble_eq_true rfl, Nat.le_of_ble_eq_true rfl⟩ (hl.1.trans hml.symm) (by rw [hb]; exact d_LW_law_959) (Nat.le_of_ble_eq_true rfl) ⟨by show _ ≤ 601024; omega, by show _ ≤ 7293034; omega⟩ hX hW0 hS (fun v σ1 H locs hM hX hS => ?_) (fun E x H1 locs1 hM => by cases hM)
  obtain ⟨ev, es⟩ := x_inl hM
  subst es
  subst ev
  have hR := r_battery h ht (xs ((nI (6 * t)) + (1 : Int32)).toNatClampNeg) (xs ((nI (6 * t)) + (2 : Int32)).toNatClampNeg) (xs ((nI (6 * t)) + (3 : Int32)).toNatClampNeg)
  refine lv_istore (lv' := [(5, .int ((S_LW_battery σ (xs ((nI (6 * t)) + (1 : Int32)).toNatClampNeg) (xs ((nI (6 * t)) + (2 : Int32)).toNatClampNeg) (xs ((nI (6 * t)) + (3 : Int32)).toNatClampNeg)).1)), (4, .int (nI (6 * t))), (3, .ref (xB s + XA 31 0)), (2, .ref (xB s + XA 15 0)), (1, .ref (xB s + XA 0 0)), (0, .ref b)]) hx hb d_LW_law_962 hl (by decide) rfl (fun ls hl => ?_)
  refine lv_aload_n hx hb d_LW_law_964 rfl (lv_at hl 3 rfl) ?_
  refine lv_aload_n hx hb d_LW_law_965 rfl (lv_at hl 5 rfl) ?_
  refine lv_iload hx hb d_LW_law_966 (lv_at hl 1 rfl) ?_
  refine lv_iconst (v := 1) hx hb d_LW_law_968 (by decide) ?_
  refine lv_iadd hx hb d_LW_law_969 ?_
  refine va_sld hx hb hXs hbl hbA hS (sc_in (k := 1) (show 6 * t + 1 < L by omega) (by omega)) d_LW_law_970 ?_
  refine lv_aload_n hx hb d_LW_law_971 rfl (lv_at hl 5 rfl) ?_
  refine lv_iload hx hb d_LW_law_972 (lv_at hl 1 rfl) ?_
  refine lv_iconst (v := 2) hx hb d_LW_law_974 (by decide) ?_
  refine lv_iadd hx hb d_LW_law_975 ?_
  refine va_sld hx hb hXs hbl hbA hS (sc_in (k := 2) (show 6 * t + 2 < L by omega) (by omega)) d_LW_law_976 ?_
  refine lv_aload_n hx hb d_LW_law_977 rfl (lv_at hl 5 rfl) ?_
  refine lv_iload hx hb d_LW_law_978 (lv_at hl 1 rfl) ?_
  refine lv_iconst (v := 3) hx hb d_LW_law_980 (by decide) ?_
  refine lv_iadd hx hb d_LW_law_981 ?_
  refine va_sld hx hb hXs hbl hbA hS (sc_in (k := 3) (show 6 * t + 3 < L by omega) (by omega)) d_LW_law_982 ?_
  obtain ⟨cB, hcB, hoB, hkB⟩ := xw_recv (r := 15) (i := 0) hK hX (by decide) rfl rfl
  refine xc_s (rest := []) (x_invV (argsL := [.int (xs ((nI (6 * t)) + (1 : Int32)).toNatClampNeg), .int (xs ((nI (6 * t)) + (2 : Int32)).toNatClampNeg), .int (xs ((nI (6 * t)) + (3 : Int32)).toNatClampNeg)]) hx hb hown (hts _ w_766) (hts _ w_767) (hts _ w_768) (x_code (hts _ w_769)) ⟨by decide, by decide⟩ hcB hoB hkB rfl rfl rfl d_LW_law_983) (c_MO_battery h0 (S_LW_battery σ (xs ((nI (6 * t)) + (1 : Int32)).toNatClampNeg) (xs ((nI (6 * t)) + (2 : Int32)).toNatClampNeg) (xs ((nI (6 * t)) + (3 : Int32)).toNatClampNeg)).2 (xs ((nI (6 * t)) + (1 : Int32)).toNatClampNeg) (xs ((nI (6 * t)) + (2 : Int32)).toNatClampNeg) (xs ((nI (6 * t)) + (3 : Int32)).toNatClampNeg) (mok_kp (h.mok (by omega)) kp_battery)) (xs_cw h0 hW0 m_769) (hts _ w_38) ⟨rfl, rfl, Nat.le_of_ble_eq_true rfl, Nat.le_of_ble_eq_true rfl⟩ (hl.1.trans hml.symm) (by rw [hb]; exact d_LW_law_983) (Nat.le_of_ble_eq_true rfl) ⟨by show _ ≤ 601024; omega, by show _ ≤ 7293034; omega⟩ hX hW0 hS (fun v σ1 H locs hM hX hS => ?_) (fun E x H1 locs1 hM => by cases hM)
  obtain ⟨ev, es⟩ := x_inl hM
  subst es
  refine lv_aload_n hx hb d_LW_law_986 rfl (lv_at hl 3 rfl) ?_
  obtain ⟨cB987, hcB987, hoB987, hkB987⟩ := xw_recv (r := 15) (i := 0) hK hX (by decide) rfl rfl
  refine xc_f (rest := []) (x_invV (argsL := []) hx hb hown (hts _ w_656) (hts _ w_657) (hts _ w_658) (x_code (hts _ w_659)) ⟨by decide, by decide⟩ hcB987 hoB987 hkB987 rfl rfl rfl d_LW_law_987) (c_MO_thrown h0 (S_MO_battery (S_LW_battery σ (xs ((nI (6 * t)) + (1 : Int32)).toNatClampNeg) (xs ((nI (6 * t)) + (2 : Int32)).toNatClampNeg) (xs ((nI (6 * t)) + (3 : Int32)).toNatClampNeg)).2 (xs ((nI (6 * t)) + (1 : Int32)).toNatClampNeg) (xs ((nI (6 * t)) + (2 : Int32)).toNatClampNeg) (xs ((nI (6 * t)) + (3 : Int32)).toNatClampNeg)).2) (xs_cw h0 hW0 m_659) (hts _ w_38) ⟨rfl, rfl, Nat.le_of_ble_eq_true rfl, Nat.le_of_ble_eq_true rfl⟩ (hl.1.trans hml.symm) (by rw [hb]; exact d_LW_law_987) (Nat.le_of_ble_eq_true rfl) ⟨by show _ ≤ 601024; omega, by show _ ≤ 7293034; omega⟩ hX ⟨hW0, xo_S hS⟩ ?_
  refine lv_iload hx hb d_LW_law_990 (lv_at hl 0 rfl) ?_
  refine lv_icmp_eq (tgt := 997) hx hb d_LW_law_992 (by decide) (fun _ => ?_) (fun c => absurd hR.2 c)
  refine lv_goto (tgt := 1611) hx hb d_LW_law_997 (by decide) ?_
  refine W.widen (k := 127 + 9 * (t + 1)) (n := 14114 + 54 * (t + 1)) (by omega) (by omega) ?_
  refine lv_iinc (v := nI (6 * (t + 1))) (lv' := [(4, .int (nI (6 * (t + 1)))), (5, .int ((S_LW_battery σ (xs ((nI (6 * t)) + (1 : Int32)).toNatClampNeg) (xs ((nI (6 * t)) + (2 : Int32)).toNatClampNeg) (xs ((nI (6 * t)) + (3 : Int32)).toNatClampNeg)).1)), (3, .ref (xB s + XA 31 0)), (2, .ref (xB s + XA 15 0)), (1, .ref (xB s + XA 0 0)), (0, .ref b)]) hx hb d_LW_law_1611 hl (k := 1) rfl (by show nI (6 * t) + nI 6 = _; rw [nI_add]; exact congrArg nI (by omega)) (by decide) rfl (fun ls hl => ?_)
  refine lv_goto (tgt := 23) hx hb d_LW_law_1614 (by decide) ?_
  exact ih _ _ _ ls hR.1 hX hS (lv_sub hl [0, 2, 3, 4, 5] rfl)

set_option maxHeartbeats 8000000 in
set_option maxRecDepth 100000 in
theorem k_seal {p : Program} {l : Launch} {e : Env} {s : State} {m : MethodId} {below : List Frame} {meth : Method} {c : Code} {b L : Nat} {xs : Nat → Int32} {D : va_G} {dA : Nat → ClassId} (h0 : XS0 l s #[Value.ref b] D dA) (C0 : lw_At p s m meth c b L xs) {t : Nat} (ht : t < 512) (hL : 6 * t + 6 ≤ L) (hL2 : L ≤ 3072) {σ : XS} (h : Rel t σ) {H : Heap} {locs : List Loc} (hX : XWs D dA s σ H) (hS : va_S (xAm s) s.heap H locs) {ls : Array Slot} (hl : lv_has ls 8 [(4, .int (nI (6 * t))), (3, .ref (xB s + XA 31 0)), (2, .ref (xB s + XA 15 0)), (1, .ref (xB s + XA 0 0)), (0, .ref b)])
    (ih : ∀ (σ' : XS) (H' : Heap) (locs' : List Loc) (ls' : Array Slot), Rel (t + 1) σ' → XWs D dA s σ' H' → va_S (xAm s) s.heap H' locs' → lv_has ls' 8 [(4, .int (nI (6 * (t + 1)))), (3, .ref (xB s + XA 31 0)), (2, .ref (xB s + XA 15 0)), (1, .ref (xB s + XA 0 0)), (0, .ref b)] → W p l e room_1 s m #[Value.ref b] below meth c H' locs' (127 + 9 * (t + 1)) (14114 + 54 * (t + 1)) (lw_Z below #[Value.ref b] s) (F0 m 23 ls' [])) :
    W p l e room_1 s m #[Value.ref b] below meth c H locs (127 + 9 * t) (14114 + 54 * t) (lw_Z below #[Value.ref b] s) (F0 m 1000 ls []) := by
  obtain ⟨hx, hb, hr, hml, hown, htsL, hXs, hbl, hlocks, hgv⟩ := C0
  have hbA : ¬ xAm s b := Nat.not_le.mpr hbl
  have hW0 : s.WarmedH s.vm := State.WarmedH.refl s
  have hts := xs_w (args := #[Value.ref b]) h0 hW0
  have hK := xs_K h0 hW0
  refine lv_aload_n hx hb d_LW_law_1000 rfl (lv_at hl 3 rfl) ?_
  refine lv_aload_n hx hb d_LW_law_1001 rfl (lv_at hl 4 rfl) ?_
  refine lv_iload hx hb d_LW_law_1002 (lv_at hl 0 rfl) ?_
  refine lv_iconst (v := 1) hx hb d_LW_law_1004 (by decide) ?_
  refine lv_iadd hx hb d_LW_law_1005 ?_
  refine va_sld hx hb hXs hbl hbA hS (sc_in (k := 1) (show 6 * t + 1 < L by omega) (by omega)) d_LW_law_1006 ?_
  refine lv_aload_n hx hb d_LW_law_1007 rfl (lv_at hl 4 rfl) ?_
  refine lv_iload hx hb d_LW_law_1008 (lv_at hl 0 rfl) ?_
  refine lv_iconst (v := 2) hx hb d_LW_law_1010 (by decide) ?_
  refine lv_iadd hx hb d_LW_law_1011 ?_
  refine va_sld hx hb hXs hbl hbA hS (sc_in (k := 2) (show 6 * t + 2 < L by omega) (by omega)) d_LW_law_1012 ?_
  refine lv_aload_n hx hb d_LW_law_1013 rfl (lv_at hl 4 rfl) ?_
  refine lv_iload hx hb d_LW_law_1014 (lv_at hl 0 rfl) ?_
  refine lv_iconst (v := 3) hx hb d_LW_law_1016 (by decide) ?_
  refine lv_iadd hx hb d_LW_law_1017 ?_
  refine va_sld hx hb hXs hbl hbA hS (sc_in (k := 3) (show 6 * t + 3 < L by omega) (by omega)) d_LW_law_1018 ?_
  refine lv_if_eq (tgt := 1026) hx hb d_LW_law_1019 (by decide) (fun cz => ?_) (fun cz => ?_)
  · refine lv_iconst (v := 0) hx hb d_LW_law_1026 (by decide) ?_
    refine xc_s (rest := []) (x_invS (argsL := [.ref (xB s + XA 0 0), .int (xs ((nI (6 * t)) + (1 : Int32)).toNatClampNeg), .int (xs ((nI (6 * t)) + (2 : Int32)).toNatClampNeg), .int (0 : Int32)]) hx hb hown (hts _ w_458) (hts _ w_459) (hts _ w_33) (x_codeW (hts _ w_460)) ⟨by decide, by decide⟩ rfl rfl rfl d_LW_law_1027) (c_LW_seal h0 σ (xs ((nI (6 * t)) + (1 : Int32)).toNatClampNeg) (xs ((nI (6 * t)) + (2 : Int32)).toNatClampNeg) (0 : Int32) (h.xok (by omega))) (xs_cwW h0 hW0 m_460) (hts _ w_33) ⟨rfl, rfl, Nat.le_of_ble_eq_true rfl, Nat.le_of_ble_eq_true rfl⟩ (hl.1.trans hml.symm) (by rw [hb]; exact d_LW_law_1027) (Nat.le_of_ble_eq_true rfl) ⟨by show _ ≤ 601024; omega, by show _ ≤ 7293034; omega⟩ hX hW0 hS (fun v σ1 H locs hM hX hS => ?_) (fun E x H1 locs1 hM => by cases hM)
    obtain ⟨ev, es⟩ := x_inl hM
    subst es
    subst ev
    have hR := r_seal h ht (xs ((nI (6 * t)) + (1 : Int32)).toNatClampNeg) (xs ((nI (6 * t)) + (2 : Int32)).toNatClampNeg) (0 : Int32) (by first | exact Or.inl rfl | exact Or.inr rfl)
    refine lv_istore (lv' := [(5, .int ((S_LW_seal σ (xs ((nI (6 * t)) + (1 : Int32)).toNatClampNeg) (xs ((nI (6 * t)) + (2 : Int32)).toNatClampNeg) (0 : Int32)).1)), (4, .int (nI (6 * t))), (3, .ref (xB s + XA 31 0)), (2, .ref (xB s + XA 15 0)), (1, .ref (xB s + XA 0 0)), (0, .ref b)]) hx hb d_LW_law_1030 hl (by decide) rfl (fun ls hl => ?_)
    refine lv_aload_n hx hb d_LW_law_1032 rfl (lv_at hl 3 rfl) ?_
    refine lv_aload_n hx hb d_LW_law_1033 rfl (lv_at hl 5 rfl) ?_
    refine lv_iload hx hb d_LW_law_1034 (lv_at hl 1 rfl) ?_
    refine lv_iconst (v := 1) hx hb d_LW_law_1036 (by decide) ?_
    refine lv_iadd hx hb d_LW_law_1037 ?_
    refine va_sld hx hb hXs hbl hbA hS (sc_in (k := 1) (show 6 * t + 1 < L by omega) (by omega)) d_LW_law_1038 ?_
    refine lv_aload_n hx hb d_LW_law_1039 rfl (lv_at hl 5 rfl) ?_
    refine lv_iload hx hb d_LW_law_1040 (lv_at hl 1 rfl) ?_
    refine lv_iconst (v := 2) hx hb d_LW_law_1042 (by decide) ?_
    refine lv_iadd hx hb d_LW_law_1043 ?_
    refine va_sld hx hb hXs hbl hbA hS (sc_in (k := 2) (show 6 * t + 2 < L by omega) (by omega)) d_LW_law_1044 ?_
    refine lv_aload_n hx hb d_LW_law_1045 rfl (lv_at hl 5 rfl) ?_
    refine lv_iload hx hb d_LW_law_1046 (lv_at hl 1 rfl) ?_
    refine lv_iconst (v := 3) hx hb d_LW_law_1048 (by decide) ?_
    refine lv_iadd hx hb d_LW_law_1049 ?_
    refine va_sld hx hb hXs hbl hbA hS (sc_in (k := 3) (show 6 * t + 3 < L by omega) (by omega)) d_LW_law_1050 ?_
    refine lv_if_eq (tgt := 1058) hx hb d_LW_law_1051 (by decide) (fun _ => ?_) (fun c => absurd cz c)
    refine lv_iconst (v := 0) hx hb d_LW_law_1058 (by decide) ?_
    obtain ⟨cB, hcB, hoB, hkB⟩ := xw_recv (r := 15) (i := 0) hK hX (by decide) rfl rfl
    refine xc_s (rest := []) (x_invV (argsL := [.int (xs ((nI (6 * t)) + (1 : Int32)).toNatClampNeg), .int (xs ((nI (6 * t)) + (2 : Int32)).toNatClampNeg), .int (0 : Int32)]) hx hb hown (hts _ w_770) (hts _ w_771) (hts _ w_772) (x_code (hts _ w_773)) ⟨by decide, by decide⟩ hcB hoB hkB rfl rfl rfl d_LW_law_1059) (c_MO_seal h0 (S_LW_seal σ (xs ((nI (6 * t)) + (1 : Int32)).toNatClampNeg) (xs ((nI (6 * t)) + (2 : Int32)).toNatClampNeg) (0 : Int32)).2 (xs ((nI (6 * t)) + (1 : Int32)).toNatClampNeg) (xs ((nI (6 * t)) + (2 : Int32)).toNatClampNeg) (0 : Int32) (mok_kp (h.mok (by omega)) kp_seal)) (xs_cw h0 hW0 m_773) (hts _ w_38) ⟨rfl, rfl, Nat.le_of_ble_eq_true rfl, Nat.le_of_ble_eq_true rfl⟩ (hl.1.trans hml.symm) (by rw [hb]; exact d_LW_law_1059) (Nat.le_of_ble_eq_true rfl) ⟨by show _ ≤ 601024; omega, by show _ ≤ 7293034; omega⟩ hX hW0 hS (fun v σ1 H locs hM hX hS => ?_) (fun E x H1 locs1 hM => by cases hM)
    obtain ⟨ev, es⟩ := x_inl hM
    subst es
    refine lv_aload_n hx hb d_LW_law_1062 rfl (lv_at hl 3 rfl) ?_
    obtain ⟨cB1063, hcB1063, hoB1063, hkB1063⟩ := xw_recv (r := 15) (i := 0) hK hX (by decide) rfl rfl
    refine xc_f (rest := []) (x_invV (argsL := []) hx hb hown (hts _ w_656) (hts _ w_657) (hts _ w_658) (x_code (hts _ w_659)) ⟨by decide, by decide⟩ hcB1063 hoB1063 hkB1063 rfl rfl rfl d_LW_law_1063) (c_MO_thrown h0 (S_MO_seal (S_LW_seal σ (xs ((nI (6 * t)) + (1 : Int32)).toNatClampNeg) (xs ((nI (6 * t)) + (2 : Int32)).toNatClampNeg) (0 : Int32)).2 (xs ((nI (6 * t)) + (1 : Int32)).toNatClampNeg) (xs ((nI (6 * t)) + (2 : Int32)).toNatClampNeg) (0 : Int32)).2) (xs_cw h0 hW0 m_659) (hts _ w_38) ⟨rfl, rfl, Nat.le_of_ble_eq_true rfl, Nat.le_of_ble_eq_true rfl⟩ (hl.1.trans hml.symm) (by rw [hb]; exact d_LW_law_1063) (Nat.le_of_ble_eq_true rfl) ⟨by show _ ≤ 601024; omega, by show _ ≤ 7293034; omega⟩ hX ⟨hW0, xo_S hS⟩ ?_
    refine lv_iload hx hb d_LW_law_1066 (lv_at hl 0 rfl) ?_
    refine lv_icmp_eq (tgt := 1073) hx hb d_LW_law_1068 (by decide) (fun _ => ?_) (fun c => absurd hR.2 c)
    refine lv_goto (tgt := 1611) hx hb d_LW_law_1073 (by decide) ?_
    refine W.widen (k := 127 + 9 * (t + 1)) (n := 14114 + 54 * (t + 1)) (by omega) (by omega) ?_
    refine lv_iinc (v := nI (6 * (t + 1))) (lv' := [(4, .int (nI (6 * (t + 1)))), (5, .int ((S_LW_seal σ (xs ((nI (6 * t)) + (1 : Int32)).toNatClampNeg) (xs ((nI (6 * t)) + (2 : Int32)).toNatClampNeg) (0 : Int32)).1)), (3, .ref (xB s + XA 31 0)), (2, .ref (xB s + XA 15 0)), (1, .ref (xB s + XA 0 0)), (0, .ref b)]) hx hb d_LW_law_1611 hl (k := 1) rfl (by show nI (6 * t) + nI 6 = _; rw [nI_add]; exact congrArg nI (by omega)) (by decide) rfl (fun ls hl => ?_)
    refine lv_goto (tgt := 23) hx hb d_LW_law_1614 (by decide) ?_
    exact ih _ _ _ ls hR.1 hX hS (lv_sub hl [0, 2, 3, 4, 5] rfl)
  · refine lv_iconst (v := 1) hx hb d_LW_law_1022 (by decide) ?_
    refine lv_goto (tgt := 1027) hx hb d_LW_law_1023 (by decide) ?_
    refine xc_s (rest := []) (x_invS (argsL := [.ref (xB s + XA 0 0), .int (xs ((nI (6 * t)) + (1 : Int32)).toNatClampNeg), .int (xs ((nI (6 * t)) + (2 : Int32)).toNatClampNeg), .int (1 : Int32)]) hx hb hown (hts _ w_458) (hts _ w_459) (hts _ w_33) (x_codeW (hts _ w_460)) ⟨by decide, by decide⟩ rfl rfl rfl d_LW_law_1027) (c_LW_seal h0 σ (xs ((nI (6 * t)) + (1 : Int32)).toNatClampNeg) (xs ((nI (6 * t)) + (2 : Int32)).toNatClampNeg) (1 : Int32) (h.xok (by omega))) (xs_cwW h0 hW0 m_460) (hts _ w_33) ⟨rfl, rfl, Nat.le_of_ble_eq_true rfl, Nat.le_of_ble_eq_true rfl⟩ (hl.1.trans hml.symm) (by rw [hb]; exact d_LW_law_1027) (Nat.le_of_ble_eq_true rfl) ⟨by show _ ≤ 601024; omega, by show _ ≤ 7293034; omega⟩ hX hW0 hS (fun v σ1 H locs hM hX hS => ?_) (fun E x H1 locs1 hM => by cases hM)
    obtain ⟨ev, es⟩ := x_inl hM
    subst es
    subst ev
    have hR := r_seal h ht (xs ((nI (6 * t)) + (1 : Int32)).toNatClampNeg) (xs ((nI (6 * t)) + (2 : Int32)).toNatClampNeg) (1 : Int32) (by first | exact Or.inl rfl | exact Or.inr rfl)
    refine lv_istore (lv' := [(5, .int ((S_LW_seal σ (xs ((nI (6 * t)) + (1 : Int32)).toNatClampNeg) (xs ((nI (6 * t)) + (2 : Int32)).toNatClampNeg) (1 : Int32)).1)), (4, .int (nI (6 * t))), (3, .ref (xB s + XA 31 0)), (2, .ref (xB s + XA 15 0)), (1, .ref (xB s + XA 0 0)), (0, .ref b)]) hx hb d_LW_law_1030 hl (by decide) rfl (fun ls hl => ?_)
    refine lv_aload_n hx hb d_LW_law_1032 rfl (lv_at hl 3 rfl) ?_
    refine lv_aload_n hx hb d_LW_law_1033 rfl (lv_at hl 5 rfl) ?_
    refine lv_iload hx hb d_LW_law_1034 (lv_at hl 1 rfl) ?_
    refine lv_iconst (v := 1) hx hb d_LW_law_1036 (by decide) ?_
    refine lv_iadd hx hb d_LW_law_1037 ?_
    refine va_sld hx hb hXs hbl hbA hS (sc_in (k := 1) (show 6 * t + 1 < L by omega) (by omega)) d_LW_law_1038 ?_
    refine lv_aload_n hx hb d_LW_law_1039 rfl (lv_at hl 5 rfl) ?_
    refine lv_iload hx hb d_LW_law_1040 (lv_at hl 1 rfl) ?_
    refine lv_iconst (v := 2) hx hb d_LW_law_1042 (by decide) ?_
    refine lv_iadd hx hb d_LW_law_1043 ?_
    refine va_sld hx hb hXs hbl hbA hS (sc_in (k := 2) (show 6 * t + 2 < L by omega) (by omega)) d_LW_law_1044 ?_
    refine lv_aload_n hx hb d_LW_law_1045 rfl (lv_at hl 5 rfl) ?_
    refine lv_iload hx hb d_LW_law_1046 (lv_at hl 1 rfl) ?_
    refine lv_iconst (v := 3) hx hb d_LW_law_1048 (by decide) ?_
    refine lv_iadd hx hb d_LW_law_1049 ?_
    refine va_sld hx hb hXs hbl hbA hS (sc_in (k := 3) (show 6 * t + 3 < L by omega) (by omega)) d_LW_law_1050 ?_
    refine lv_if_eq (tgt := 1058) hx hb d_LW_law_1051 (by decide) (fun c => absurd c cz) (fun _ => ?_)
    refine lv_iconst (v := 1) hx hb d_LW_law_1054 (by decide) ?_
    refine lv_goto (tgt := 1059) hx hb d_LW_law_1055 (by decide) ?_
    obtain ⟨cB, hcB, hoB, hkB⟩ := xw_recv (r := 15) (i := 0) hK hX (by decide) rfl rfl
    refine xc_s (rest := []) (x_invV (argsL := [.int (xs ((nI (6 * t)) + (1 : Int32)).toNatClampNeg), .int (xs ((nI (6 * t)) + (2 : Int32)).toNatClampNeg), .int (1 : Int32)]) hx hb hown (hts _ w_770) (hts _ w_771) (hts _ w_772) (x_code (hts _ w_773)) ⟨by decide, by decide⟩ hcB hoB hkB rfl rfl rfl d_LW_law_1059) (c_MO_seal h0 (S_LW_seal σ (xs ((nI (6 * t)) + (1 : Int32)).toNatClampNeg) (xs ((nI (6 * t)) + (2 : Int32)).toNatClampNeg) (1 : Int32)).2 (xs ((nI (6 * t)) + (1 : Int32)).toNatClampNeg) (xs ((nI (6 * t)) + (2 : Int32)).toNatClampNeg) (1 : Int32) (mok_kp (h.mok (by omega)) kp_seal)) (xs_cw h0 hW0 m_773) (hts _ w_38) ⟨rfl, rfl, Nat.le_of_ble_eq_true rfl, Nat.le_of_ble_eq_true rfl⟩ (hl.1.trans hml.symm) (by rw [hb]; exact d_LW_law_1059) (Nat.le_of_ble_eq_true rfl) ⟨by show _ ≤ 601024; omega, by show _ ≤ 7293034; omega⟩ hX hW0 hS (fun v σ1 H locs hM hX hS => ?_) (fun E x H1 locs1 hM => by cases hM)
    obtain ⟨ev, es⟩ := x_inl hM
    subst es
    refine lv_aload_n hx hb d_LW_law_1062 rfl (lv_at hl 3 rfl) ?_
    obtain ⟨cB1063, hcB1063, hoB1063, hkB1063⟩ := xw_recv (r := 15) (i := 0) hK hX (by decide) rfl rfl
    refine xc_f (rest := []) (x_invV (argsL := []) hx hb hown (hts _ w_656) (hts _ w_657) (hts _ w_658) (x_code (hts _ w_659)) ⟨by decide, by decide⟩ hcB1063 hoB1063 hkB1063 rfl rfl rfl d_LW_law_1063) (c_MO_thrown h0 (S_MO_seal (S_LW_seal σ (xs ((nI (6 * t)) + (1 : Int32)).toNatClampNeg) (xs ((nI (6 * t)) + (2 : Int32)).toNatClampNeg) (1 : Int32)).2 (xs ((nI (6 * t)) + (1 : Int32)).toNatClampNeg) (xs ((nI (6 * t)) + (2 : Int32)).toNatClampNeg) (1 : Int32)).2) (xs_cw h0 hW0 m_659) (hts _ w_38) ⟨rfl, rfl, Nat.le_of_ble_eq_true rfl, Nat.le_of_ble_eq_true rfl⟩ (hl.1.trans hml.symm) (by rw [hb]; exact d_LW_law_1063) (Nat.le_of_ble_eq_true rfl) ⟨by show _ ≤ 601024; omega, by show _ ≤ 7293034; omega⟩ hX ⟨hW0, xo_S hS⟩ ?_
    refine lv_iload hx hb d_LW_law_1066 (lv_at hl 0 rfl) ?_
    refine lv_icmp_eq (tgt := 1073) hx hb d_LW_law_1068 (by decide) (fun _ => ?_) (fun c => absurd hR.2 c)
    refine lv_goto (tgt := 1611) hx hb d_LW_law_1073 (by decide) ?_
    refine W.widen (k := 127 + 9 * (t + 1)) (n := 14114 + 54 * (t + 1)) (by omega) (by omega) ?_
    refine lv_iinc (v := nI (6 * (t + 1))) (lv' := [(4, .int (nI (6 * (t + 1)))), (5, .int ((S_LW_seal σ (xs ((nI (6 * t)) + (1 : Int32)).toNatClampNeg) (xs ((nI (6 * t)) + (2 : Int32)).toNatClampNeg) (1 : Int32)).1)), (3, .ref (xB s + XA 31 0)), (2, .ref (xB s + XA 15 0)), (1, .ref (xB s + XA 0 0)), (0, .ref b)]) hx hb d_LW_law_1611 hl (k := 1) rfl (by show nI (6 * t) + nI 6 = _; rw [nI_add]; exact congrArg nI (by omega)) (by decide) rfl (fun ls hl => ?_)
    refine lv_goto (tgt := 23) hx hb d_LW_law_1614 (by decide) ?_
    exact ih _ _ _ ls hR.1 hX hS (lv_sub hl [0, 2, 3, 4, 5] rfl)

set_option maxHeartbeats 8000000 in
set_option maxRecDepth 100000 in
theorem k_check {p : Program} {l : Launch} {e : Env} {s : State} {m : MethodId} {below : List Frame} {meth : Method} {c : Code} {b L : Nat} {xs : Nat → Int32} {D : va_G} {dA : Nat → ClassId} (h0 : XS0 l s #[Value.ref b] D dA) (C0 : lw_At p s m meth c b L xs) {t : Nat} (ht : t < 512) (hL : 6 * t + 6 ≤ L) (hL2 : L ≤ 3072) {σ : XS} (h : Rel t σ) {H : Heap} {locs : List Loc} (hX : XWs D dA s σ H) (hS : va_S (xAm s) s.heap H locs) {ls : Array Slot} (hl : lv_has ls 8 [(4, .int (nI (6 * t))), (3, .ref (xB s + XA 31 0)), (2, .ref (xB s + XA 15 0)), (1, .ref (xB s + XA 0 0)), (0, .ref b)])
    (ih : ∀ (σ' : XS) (H' : Heap) (locs' : List Loc) (ls' : Array Slot), Rel (t + 1) σ' → XWs D dA s σ' H' → va_S (xAm s) s.heap H' locs' → lv_has ls' 8 [(4, .int (nI (6 * (t + 1)))), (3, .ref (xB s + XA 31 0)), (2, .ref (xB s + XA 15 0)), (1, .ref (xB s + XA 0 0)), (0, .ref b)] → W p l e room_1 s m #[Value.ref b] below meth c H' locs' (127 + 9 * (t + 1)) (14114 + 54 * (t + 1)) (lw_Z below #[Value.ref b] s) (F0 m 23 ls' [])) :
    W p l e room_1 s m #[Value.ref b] below meth c H locs (127 + 9 * t) (14114 + 54 * t) (lw_Z below #[Value.ref b] s) (F0 m 1076 ls []) := by
  obtain ⟨hx, hb, hr, hml, hown, htsL, hXs, hbl, hlocks, hgv⟩ := C0
  have hbA : ¬ xAm s b := Nat.not_le.mpr hbl
  have hW0 : s.WarmedH s.vm := State.WarmedH.refl s
  have hts := xs_w (args := #[Value.ref b]) h0 hW0
  have hK := xs_K h0 hW0
  refine lv_aload_n hx hb d_LW_law_1076 rfl (lv_at hl 3 rfl) ?_
  refine lv_aload_n hx hb d_LW_law_1077 rfl (lv_at hl 4 rfl) ?_
  refine lv_iload hx hb d_LW_law_1078 (lv_at hl 0 rfl) ?_
  refine lv_iconst (v := 1) hx hb d_LW_law_1080 (by decide) ?_
  refine lv_iadd hx hb d_LW_law_1081 ?_
  refine va_sld hx hb hXs hbl hbA hS (sc_in (k := 1) (show 6 * t + 1 < L by omega) (by omega)) d_LW_law_1082 ?_
  refine xc_s (rest := []) (x_invS (argsL := [.ref (xB s + XA 0 0), .int (xs ((nI (6 * t)) + (1 : Int32)).toNatClampNeg)]) hx hb hown (hts _ w_466) (hts _ w_467) (hts _ w_33) (x_codeW (hts _ w_468)) ⟨by decide, by decide⟩ rfl rfl rfl d_LW_law_1083) (c_LW_check h0 σ (xs ((nI (6 * t)) + (1 : Int32)).toNatClampNeg) (h.xok (by omega))) (xs_cwW h0 hW0 m_468) (hts _ w_33) ⟨rfl, rfl, Nat.le_of_ble_eq_true rfl, Nat.le_of_ble_eq_true rfl⟩ (hl.1.trans hml.symm) (by rw [hb]; exact d_LW_law_1083) (Nat.le_of_ble_eq_true rfl) ⟨by show _ ≤ 601024; omega, by show _ ≤ 7293034; omega⟩ hX hW0 hS (fun v σ1 H locs hM hX hS => ?_) (fun E x H1 locs1 hM => by cases hM)
  obtain ⟨ev, es⟩ := x_inl hM
  subst es
  subst ev
  have hR := r_check h ht (xs ((nI (6 * t)) + (1 : Int32)).toNatClampNeg)
  refine lv_istore (lv' := [(5, .int ((S_LW_check σ (xs ((nI (6 * t)) + (1 : Int32)).toNatClampNeg)).1)), (4, .int (nI (6 * t))), (3, .ref (xB s + XA 31 0)), (2, .ref (xB s + XA 15 0)), (1, .ref (xB s + XA 0 0)), (0, .ref b)]) hx hb d_LW_law_1086 hl (by decide) rfl (fun ls hl => ?_)
  refine lv_aload_n hx hb d_LW_law_1088 rfl (lv_at hl 3 rfl) ?_
  refine lv_aload_n hx hb d_LW_law_1089 rfl (lv_at hl 5 rfl) ?_
  refine lv_iload hx hb d_LW_law_1090 (lv_at hl 1 rfl) ?_
  refine lv_iconst (v := 1) hx hb d_LW_law_1092 (by decide) ?_
  refine lv_iadd hx hb d_LW_law_1093 ?_
  refine va_sld hx hb hXs hbl hbA hS (sc_in (k := 1) (show 6 * t + 1 < L by omega) (by omega)) d_LW_law_1094 ?_
  obtain ⟨cB, hcB, hoB, hkB⟩ := xw_recv (r := 15) (i := 0) hK hX (by decide) rfl rfl
  refine xc_s (rest := []) (x_invV (argsL := [.int (xs ((nI (6 * t)) + (1 : Int32)).toNatClampNeg)]) hx hb hown (hts _ w_774) (hts _ w_775) (hts _ w_776) (x_code (hts _ w_777)) ⟨by decide, by decide⟩ hcB hoB hkB rfl rfl rfl d_LW_law_1095) (c_MO_check h0 (S_LW_check σ (xs ((nI (6 * t)) + (1 : Int32)).toNatClampNeg)).2 (xs ((nI (6 * t)) + (1 : Int32)).toNatClampNeg) (mok_kp (h.mok (by omega)) kp_check)) (xs_cw h0 hW0 m_777) (hts _ w_38) ⟨rfl, rfl, Nat.le_of_ble_eq_true rfl, Nat.le_of_ble_eq_true rfl⟩ (hl.1.trans hml.symm) (by rw [hb]; exact d_LW_law_1095) (Nat.le_of_ble_eq_true rfl) ⟨by show _ ≤ 601024; omega, by show _ ≤ 7293034; omega⟩ hX hW0 hS (fun v σ1 H locs hM hX hS => ?_) (fun E x H1 locs1 hM => by cases hM)
  obtain ⟨ev, es⟩ := x_inl hM
  subst es
  refine lv_aload_n hx hb d_LW_law_1098 rfl (lv_at hl 3 rfl) ?_
  obtain ⟨cB1099, hcB1099, hoB1099, hkB1099⟩ := xw_recv (r := 15) (i := 0) hK hX (by decide) rfl rfl
  refine xc_f (rest := []) (x_invV (argsL := []) hx hb hown (hts _ w_656) (hts _ w_657) (hts _ w_658) (x_code (hts _ w_659)) ⟨by decide, by decide⟩ hcB1099 hoB1099 hkB1099 rfl rfl rfl d_LW_law_1099) (c_MO_thrown h0 (S_MO_check (S_LW_check σ (xs ((nI (6 * t)) + (1 : Int32)).toNatClampNeg)).2 (xs ((nI (6 * t)) + (1 : Int32)).toNatClampNeg)).2) (xs_cw h0 hW0 m_659) (hts _ w_38) ⟨rfl, rfl, Nat.le_of_ble_eq_true rfl, Nat.le_of_ble_eq_true rfl⟩ (hl.1.trans hml.symm) (by rw [hb]; exact d_LW_law_1099) (Nat.le_of_ble_eq_true rfl) ⟨by show _ ≤ 601024; omega, by show _ ≤ 7293034; omega⟩ hX ⟨hW0, xo_S hS⟩ ?_
  refine lv_iload hx hb d_LW_law_1102 (lv_at hl 0 rfl) ?_
  refine lv_icmp_eq (tgt := 1109) hx hb d_LW_law_1104 (by decide) (fun _ => ?_) (fun c => absurd hR.2 c)
  refine lv_goto (tgt := 1611) hx hb d_LW_law_1109 (by decide) ?_
  refine W.widen (k := 127 + 9 * (t + 1)) (n := 14114 + 54 * (t + 1)) (by omega) (by omega) ?_
  refine lv_iinc (v := nI (6 * (t + 1))) (lv' := [(4, .int (nI (6 * (t + 1)))), (5, .int ((S_LW_check σ (xs ((nI (6 * t)) + (1 : Int32)).toNatClampNeg)).1)), (3, .ref (xB s + XA 31 0)), (2, .ref (xB s + XA 15 0)), (1, .ref (xB s + XA 0 0)), (0, .ref b)]) hx hb d_LW_law_1611 hl (k := 1) rfl (by show nI (6 * t) + nI 6 = _; rw [nI_add]; exact congrArg nI (by omega)) (by decide) rfl (fun ls hl => ?_)
  refine lv_goto (tgt := 23) hx hb d_LW_law_1614 (by decide) ?_
  exact ih _ _ _ ls hR.1 hX hS (lv_sub hl [0, 2, 3, 4, 5] rfl)

set_option maxHeartbeats 8000000 in
set_option maxRecDepth 100000 in
theorem k_now {p : Program} {l : Launch} {e : Env} {s : State} {m : MethodId} {below : List Frame} {meth : Method} {c : Code} {b L : Nat} {xs : Nat → Int32} {D : va_G} {dA : Nat → ClassId} (h0 : XS0 l s #[Value.ref b] D dA) (C0 : lw_At p s m meth c b L xs) {t : Nat} (ht : t < 512) (hL : 6 * t + 6 ≤ L) (hL2 : L ≤ 3072) {σ : XS} (h : Rel t σ) {H : Heap} {locs : List Loc} (hX : XWs D dA s σ H) (hS : va_S (xAm s) s.heap H locs) {ls : Array Slot} (hl : lv_has ls 8 [(4, .int (nI (6 * t))), (3, .ref (xB s + XA 31 0)), (2, .ref (xB s + XA 15 0)), (1, .ref (xB s + XA 0 0)), (0, .ref b)])
    (ih : ∀ (σ' : XS) (H' : Heap) (locs' : List Loc) (ls' : Array Slot), Rel (t + 1) σ' → XWs D dA s σ' H' → va_S (xAm s) s.heap H' locs' → lv_has ls' 8 [(4, .int (nI (6 * (t + 1)))), (3, .ref (xB s + XA 31 0)), (2, .ref (xB s + XA 15 0)), (1, .ref (xB s + XA 0 0)), (0, .ref b)] → W p l e room_1 s m #[Value.ref b] below meth c H' locs' (127 + 9 * (t + 1)) (14114 + 54 * (t + 1)) (lw_Z below #[Value.ref b] s) (F0 m 23 ls' [])) :
    W p l e room_1 s m #[Value.ref b] below meth c H locs (127 + 9 * t) (14114 + 54 * t) (lw_Z below #[Value.ref b] s) (F0 m 1112 ls []) := by
  obtain ⟨hx, hb, hr, hml, hown, htsL, hXs, hbl, hlocks, hgv⟩ := C0
  have hbA : ¬ xAm s b := Nat.not_le.mpr hbl
  have hW0 : s.WarmedH s.vm := State.WarmedH.refl s
  have hts := xs_w (args := #[Value.ref b]) h0 hW0
  have hK := xs_K h0 hW0
  refine lv_aload_n hx hb d_LW_law_1112 rfl (lv_at hl 3 rfl) ?_
  refine lv_aload_n hx hb d_LW_law_1113 rfl (lv_at hl 4 rfl) ?_
  refine lv_iload hx hb d_LW_law_1114 (lv_at hl 0 rfl) ?_
  refine lv_iconst (v := 1) hx hb d_LW_law_1116 (by decide) ?_
  refine lv_iadd hx hb d_LW_law_1117 ?_
  refine va_sld hx hb hXs hbl hbA hS (sc_in (k := 1) (show 6 * t + 1 < L by omega) (by omega)) d_LW_law_1118 ?_
  refine lv_aload_n hx hb d_LW_law_1119 rfl (lv_at hl 4 rfl) ?_
  refine lv_iload hx hb d_LW_law_1120 (lv_at hl 0 rfl) ?_
  refine lv_iconst (v := 2) hx hb d_LW_law_1122 (by decide) ?_
  refine lv_iadd hx hb d_LW_law_1123 ?_
  refine va_sld hx hb hXs hbl hbA hS (sc_in (k := 2) (show 6 * t + 2 < L by omega) (by omega)) d_LW_law_1124 ?_
  refine xc_s (rest := []) (x_invS (argsL := [.ref (xB s + XA 0 0), .int (xs ((nI (6 * t)) + (1 : Int32)).toNatClampNeg), .int (xs ((nI (6 * t)) + (2 : Int32)).toNatClampNeg)]) hx hb hown (hts _ w_473) (hts _ w_474) (hts _ w_33) (x_codeW (hts _ w_475)) ⟨by decide, by decide⟩ rfl rfl rfl d_LW_law_1125) (c_LW_now h0 σ (xs ((nI (6 * t)) + (1 : Int32)).toNatClampNeg) (xs ((nI (6 * t)) + (2 : Int32)).toNatClampNeg)) (xs_cwW h0 hW0 m_475) (hts _ w_33) ⟨rfl, rfl, Nat.le_of_ble_eq_true rfl, Nat.le_of_ble_eq_true rfl⟩ (hl.1.trans hml.symm) (by rw [hb]; exact d_LW_law_1125) (Nat.le_of_ble_eq_true rfl) ⟨by show _ ≤ 601024; omega, by show _ ≤ 7293034; omega⟩ hX hW0 hS (fun v σ1 H locs hM hX hS => ?_) (fun E x H1 locs1 hM => by cases hM)
  obtain ⟨ev, es⟩ := x_inl hM
  subst es
  subst ev
  have hR := r_now h ht (xs ((nI (6 * t)) + (1 : Int32)).toNatClampNeg) (xs ((nI (6 * t)) + (2 : Int32)).toNatClampNeg)
  refine lv_istore (lv' := [(5, .int ((S_LW_now σ (xs ((nI (6 * t)) + (1 : Int32)).toNatClampNeg) (xs ((nI (6 * t)) + (2 : Int32)).toNatClampNeg)).1)), (4, .int (nI (6 * t))), (3, .ref (xB s + XA 31 0)), (2, .ref (xB s + XA 15 0)), (1, .ref (xB s + XA 0 0)), (0, .ref b)]) hx hb d_LW_law_1128 hl (by decide) rfl (fun ls hl => ?_)
  refine lv_aload_n hx hb d_LW_law_1130 rfl (lv_at hl 3 rfl) ?_
  refine lv_aload_n hx hb d_LW_law_1131 rfl (lv_at hl 5 rfl) ?_
  refine lv_iload hx hb d_LW_law_1132 (lv_at hl 1 rfl) ?_
  refine lv_iconst (v := 1) hx hb d_LW_law_1134 (by decide) ?_
  refine lv_iadd hx hb d_LW_law_1135 ?_
  refine va_sld hx hb hXs hbl hbA hS (sc_in (k := 1) (show 6 * t + 1 < L by omega) (by omega)) d_LW_law_1136 ?_
  refine lv_aload_n hx hb d_LW_law_1137 rfl (lv_at hl 5 rfl) ?_
  refine lv_iload hx hb d_LW_law_1138 (lv_at hl 1 rfl) ?_
  refine lv_iconst (v := 2) hx hb d_LW_law_1140 (by decide) ?_
  refine lv_iadd hx hb d_LW_law_1141 ?_
  refine va_sld hx hb hXs hbl hbA hS (sc_in (k := 2) (show 6 * t + 2 < L by omega) (by omega)) d_LW_law_1142 ?_
  obtain ⟨cB, hcB, hoB, hkB⟩ := xw_recv (r := 15) (i := 0) hK hX (by decide) rfl rfl
  refine xc_s (rest := []) (x_invV (argsL := [.int (xs ((nI (6 * t)) + (1 : Int32)).toNatClampNeg), .int (xs ((nI (6 * t)) + (2 : Int32)).toNatClampNeg)]) hx hb hown (hts _ w_778) (hts _ w_779) (hts _ w_780) (x_code (hts _ w_781)) ⟨by decide, by decide⟩ hcB hoB hkB rfl rfl rfl d_LW_law_1143) (c_MO_now h0 (S_LW_now σ (xs ((nI (6 * t)) + (1 : Int32)).toNatClampNeg) (xs ((nI (6 * t)) + (2 : Int32)).toNatClampNeg)).2 (xs ((nI (6 * t)) + (1 : Int32)).toNatClampNeg) (xs ((nI (6 * t)) + (2 : Int32)).toNatClampNeg)) (xs_cw h0 hW0 m_781) (hts _ w_38) ⟨rfl, rfl, Nat.le_of_ble_eq_true rfl, Nat.le_of_ble_eq_true rfl⟩ (hl.1.trans hml.symm) (by rw [hb]; exact d_LW_law_1143) (Nat.le_of_ble_eq_true rfl) ⟨by show _ ≤ 601024; omega, by show _ ≤ 7293034; omega⟩ hX hW0 hS (fun v σ1 H locs hM hX hS => ?_) (fun E x H1 locs1 hM => by cases hM)
  obtain ⟨ev, es⟩ := x_inl hM
  subst es
  refine lv_aload_n hx hb d_LW_law_1146 rfl (lv_at hl 3 rfl) ?_
  obtain ⟨cB1147, hcB1147, hoB1147, hkB1147⟩ := xw_recv (r := 15) (i := 0) hK hX (by decide) rfl rfl
  refine xc_f (rest := []) (x_invV (argsL := []) hx hb hown (hts _ w_656) (hts _ w_657) (hts _ w_658) (x_code (hts _ w_659)) ⟨by decide, by decide⟩ hcB1147 hoB1147 hkB1147 rfl rfl rfl d_LW_law_1147) (c_MO_thrown h0 (S_MO_now (S_LW_now σ (xs ((nI (6 * t)) + (1 : Int32)).toNatClampNeg) (xs ((nI (6 * t)) + (2 : Int32)).toNatClampNeg)).2 (xs ((nI (6 * t)) + (1 : Int32)).toNatClampNeg) (xs ((nI (6 * t)) + (2 : Int32)).toNatClampNeg)).2) (xs_cw h0 hW0 m_659) (hts _ w_38) ⟨rfl, rfl, Nat.le_of_ble_eq_true rfl, Nat.le_of_ble_eq_true rfl⟩ (hl.1.trans hml.symm) (by rw [hb]; exact d_LW_law_1147) (Nat.le_of_ble_eq_true rfl) ⟨by show _ ≤ 601024; omega, by show _ ≤ 7293034; omega⟩ hX ⟨hW0, xo_S hS⟩ ?_
  refine lv_iload hx hb d_LW_law_1150 (lv_at hl 0 rfl) ?_
  refine lv_icmp_eq (tgt := 1157) hx hb d_LW_law_1152 (by decide) (fun _ => ?_) (fun c => absurd hR.2 c)
  refine lv_goto (tgt := 1611) hx hb d_LW_law_1157 (by decide) ?_
  refine W.widen (k := 127 + 9 * (t + 1)) (n := 14114 + 54 * (t + 1)) (by omega) (by omega) ?_
  refine lv_iinc (v := nI (6 * (t + 1))) (lv' := [(4, .int (nI (6 * (t + 1)))), (5, .int ((S_LW_now σ (xs ((nI (6 * t)) + (1 : Int32)).toNatClampNeg) (xs ((nI (6 * t)) + (2 : Int32)).toNatClampNeg)).1)), (3, .ref (xB s + XA 31 0)), (2, .ref (xB s + XA 15 0)), (1, .ref (xB s + XA 0 0)), (0, .ref b)]) hx hb d_LW_law_1611 hl (k := 1) rfl (by show nI (6 * t) + nI 6 = _; rw [nI_add]; exact congrArg nI (by omega)) (by decide) rfl (fun ls hl => ?_)
  refine lv_goto (tgt := 23) hx hb d_LW_law_1614 (by decide) ?_
  exact ih _ _ _ ls hR.1 hX hS (lv_sub hl [0, 2, 3, 4, 5] rfl)

set_option maxHeartbeats 8000000 in
set_option maxRecDepth 100000 in
theorem k_ready {p : Program} {l : Launch} {e : Env} {s : State} {m : MethodId} {below : List Frame} {meth : Method} {c : Code} {b L : Nat} {xs : Nat → Int32} {D : va_G} {dA : Nat → ClassId} (h0 : XS0 l s #[Value.ref b] D dA) (C0 : lw_At p s m meth c b L xs) {t : Nat} (ht : t < 512) (hL : 6 * t + 6 ≤ L) (hL2 : L ≤ 3072) {σ : XS} (h : Rel t σ) {H : Heap} {locs : List Loc} (hX : XWs D dA s σ H) (hS : va_S (xAm s) s.heap H locs) {ls : Array Slot} (hl : lv_has ls 8 [(4, .int (nI (6 * t))), (3, .ref (xB s + XA 31 0)), (2, .ref (xB s + XA 15 0)), (1, .ref (xB s + XA 0 0)), (0, .ref b)])
    (ih : ∀ (σ' : XS) (H' : Heap) (locs' : List Loc) (ls' : Array Slot), Rel (t + 1) σ' → XWs D dA s σ' H' → va_S (xAm s) s.heap H' locs' → lv_has ls' 8 [(4, .int (nI (6 * (t + 1)))), (3, .ref (xB s + XA 31 0)), (2, .ref (xB s + XA 15 0)), (1, .ref (xB s + XA 0 0)), (0, .ref b)] → W p l e room_1 s m #[Value.ref b] below meth c H' locs' (127 + 9 * (t + 1)) (14114 + 54 * (t + 1)) (lw_Z below #[Value.ref b] s) (F0 m 23 ls' [])) :
    W p l e room_1 s m #[Value.ref b] below meth c H locs (127 + 9 * t) (14114 + 54 * t) (lw_Z below #[Value.ref b] s) (F0 m 1160 ls []) := by
  obtain ⟨hx, hb, hr, hml, hown, htsL, hXs, hbl, hlocks, hgv⟩ := C0
  have hbA : ¬ xAm s b := Nat.not_le.mpr hbl
  have hW0 : s.WarmedH s.vm := State.WarmedH.refl s
  have hts := xs_w (args := #[Value.ref b]) h0 hW0
  have hK := xs_K h0 hW0
  refine lv_aload_n hx hb d_LW_law_1160 rfl (lv_at hl 3 rfl) ?_
  refine lv_aload_n hx hb d_LW_law_1161 rfl (lv_at hl 4 rfl) ?_
  refine lv_iload hx hb d_LW_law_1162 (lv_at hl 0 rfl) ?_
  refine lv_iconst (v := 1) hx hb d_LW_law_1164 (by decide) ?_
  refine lv_iadd hx hb d_LW_law_1165 ?_
  refine va_sld hx hb hXs hbl hbA hS (sc_in (k := 1) (show 6 * t + 1 < L by omega) (by omega)) d_LW_law_1166 ?_
  refine lv_aload_n hx hb d_LW_law_1167 rfl (lv_at hl 1 rfl) ?_
  refine xc_s (rest := []) (x_invS (argsL := [.ref (xB s + XA 0 0), .int (xs ((nI (6 * t)) + (1 : Int32)).toNatClampNeg), .ref (xB s + XA 31 0)]) hx hb hown (hts _ w_480) (hts _ w_481) (hts _ w_33) (x_codeW (hts _ w_482)) ⟨by decide, by decide⟩ rfl rfl rfl d_LW_law_1168) (c_LW_ready h0 σ (xs ((nI (6 * t)) + (1 : Int32)).toNatClampNeg) (h.xok (by omega))) (xs_cwW h0 hW0 m_482) (hts _ w_33) ⟨rfl, rfl, Nat.le_of_ble_eq_true rfl, Nat.le_of_ble_eq_true rfl⟩ (hl.1.trans hml.symm) (by rw [hb]; exact d_LW_law_1168) (Nat.le_of_ble_eq_true rfl) ⟨by show _ ≤ 601024; omega, by show _ ≤ 7293034; omega⟩ hX hW0 hS (fun v σ1 H locs hM hX hS => ?_) (fun E x H1 locs1 hM => by cases hM)
  obtain ⟨ev, es⟩ := x_inl hM
  subst es
  subst ev
  have hR := r_ready h ht (xs ((nI (6 * t)) + (1 : Int32)).toNatClampNeg)
  refine lv_istore (lv' := [(5, .int ((S_LW_ready σ (xs ((nI (6 * t)) + (1 : Int32)).toNatClampNeg)).1)), (4, .int (nI (6 * t))), (3, .ref (xB s + XA 31 0)), (2, .ref (xB s + XA 15 0)), (1, .ref (xB s + XA 0 0)), (0, .ref b)]) hx hb d_LW_law_1171 hl (by decide) rfl (fun ls hl => ?_)
  refine lv_aload_n hx hb d_LW_law_1173 rfl (lv_at hl 3 rfl) ?_
  refine lv_aload_n hx hb d_LW_law_1174 rfl (lv_at hl 5 rfl) ?_
  refine lv_iload hx hb d_LW_law_1175 (lv_at hl 1 rfl) ?_
  refine lv_iconst (v := 1) hx hb d_LW_law_1177 (by decide) ?_
  refine lv_iadd hx hb d_LW_law_1178 ?_
  refine va_sld hx hb hXs hbl hbA hS (sc_in (k := 1) (show 6 * t + 1 < L by omega) (by omega)) d_LW_law_1179 ?_
  obtain ⟨cB, hcB, hoB, hkB⟩ := xw_recv (r := 15) (i := 0) hK hX (by decide) rfl rfl
  refine xc_s (rest := []) (x_invV (argsL := [.int (xs ((nI (6 * t)) + (1 : Int32)).toNatClampNeg)]) hx hb hown (hts _ w_782) (hts _ w_783) (hts _ w_784) (x_code (hts _ w_785)) ⟨by decide, by decide⟩ hcB hoB hkB rfl rfl rfl d_LW_law_1180) (c_MO_ready h0 (S_LW_ready σ (xs ((nI (6 * t)) + (1 : Int32)).toNatClampNeg)).2 (xs ((nI (6 * t)) + (1 : Int32)).toNatClampNeg) (mok_kp (h.mok (by omega)) kp_ready)) (xs_cw h0 hW0 m_785) (hts _ w_38) ⟨rfl, rfl, Nat.le_of_ble_eq_true rfl, Nat.le_of_ble_eq_true rfl⟩ (hl.1.trans hml.symm) (by rw [hb]; exact d_LW_law_1180) (Nat.le_of_ble_eq_true rfl) ⟨by show _ ≤ 601024; omega, by show _ ≤ 7293034; omega⟩ hX hW0 hS (fun v σ1 H locs hM hX hS => ?_) (fun E x H1 locs1 hM => by cases hM)
  obtain ⟨ev, es⟩ := x_inl hM
  subst es
  subst ev
  refine lv_istore (lv' := [(6, .int ((S_MO_ready (S_LW_ready σ (xs ((nI (6 * t)) + (1 : Int32)).toNatClampNeg)).2 (xs ((nI (6 * t)) + (1 : Int32)).toNatClampNeg)).1)), (5, .int ((S_LW_ready σ (xs ((nI (6 * t)) + (1 : Int32)).toNatClampNeg)).1)), (4, .int (nI (6 * t))), (3, .ref (xB s + XA 31 0)), (2, .ref (xB s + XA 15 0)), (1, .ref (xB s + XA 0 0)), (0, .ref b)]) hx hb d_LW_law_1183 hl (by decide) rfl (fun ls hl => ?_)
  refine lv_aload_n hx hb d_LW_law_1185 rfl (lv_at hl 4 rfl) ?_
  obtain ⟨cB1186, hcB1186, hoB1186, hkB1186⟩ := xw_recv (r := 15) (i := 0) hK hX (by decide) rfl rfl
  refine xc_f (rest := []) (x_invV (argsL := []) hx hb hown (hts _ w_656) (hts _ w_657) (hts _ w_658) (x_code (hts _ w_659)) ⟨by decide, by decide⟩ hcB1186 hoB1186 hkB1186 rfl rfl rfl d_LW_law_1186) (c_MO_thrown h0 (S_MO_ready (S_LW_ready σ (xs ((nI (6 * t)) + (1 : Int32)).toNatClampNeg)).2 (xs ((nI (6 * t)) + (1 : Int32)).toNatClampNeg)).2) (xs_cw h0 hW0 m_659) (hts _ w_38) ⟨rfl, rfl, Nat.le_of_ble_eq_true rfl, Nat.le_of_ble_eq_true rfl⟩ (hl.1.trans hml.symm) (by rw [hb]; exact d_LW_law_1186) (Nat.le_of_ble_eq_true rfl) ⟨by show _ ≤ 601024; omega, by show _ ≤ 7293034; omega⟩ hX ⟨hW0, xo_S hS⟩ ?_
  refine lv_iload hx hb d_LW_law_1189 (lv_at hl 1 rfl) ?_
  refine lv_icmp_eq (tgt := 1196) hx hb d_LW_law_1191 (by decide) (fun _ => ?_) (fun c => absurd hR.2.1 c)
  refine lv_iload hx hb d_LW_law_1196 (lv_at hl 1 rfl) ?_
  refine lv_if_ne (tgt := 1213) hx hb d_LW_law_1198 (by decide) (fun c0 => ?_) (fun c0 => ?_)
  · refine lv_goto (tgt := 1611) hx hb d_LW_law_1213 (by decide) ?_
    refine W.widen (k := 127 + 9 * (t + 1)) (n := 14114 + 54 * (t + 1)) (by omega) (by omega) ?_
    refine lv_iinc (v := nI (6 * (t + 1))) (lv' := [(4, .int (nI (6 * (t + 1)))), (6, .int ((S_MO_ready (S_LW_ready σ (xs ((nI (6 * t)) + (1 : Int32)).toNatClampNeg)).2 (xs ((nI (6 * t)) + (1 : Int32)).toNatClampNeg)).1)), (5, .int ((S_LW_ready σ (xs ((nI (6 * t)) + (1 : Int32)).toNatClampNeg)).1)), (3, .ref (xB s + XA 31 0)), (2, .ref (xB s + XA 15 0)), (1, .ref (xB s + XA 0 0)), (0, .ref b)]) hx hb d_LW_law_1611 hl (k := 2) rfl (by show nI (6 * t) + nI 6 = _; rw [nI_add]; exact congrArg nI (by omega)) (by decide) rfl (fun ls hl => ?_)
    refine lv_goto (tgt := 23) hx hb d_LW_law_1614 (by decide) ?_
    exact ih _ _ _ ls hR.1 hX hS (lv_sub hl [0, 3, 4, 5, 6] rfl)
  · refine lv_aload_n hx hb d_LW_law_1201 rfl (lv_at hl 3 rfl) ?_
    refine lv_iconst (v := 0) hx hb d_LW_law_1202 (by decide) ?_
    refine xw_lald (r := 31) (i := 0) hx hb hK hX (by decide) 2 rfl rfl (j := 0) (pk_in 0 1 (by decide)) d_LW_law_1203 ?_
    refine lv_iload hx hb d_LW_law_1204 (lv_at hl 0 rfl) ?_
    refine lv_i2l hx hb d_LW_law_1206 rfl ?_
    refine W.lcmp hx hb d_LW_law_1207 ?_
    refine lv_if_eq (tgt := 1213) hx hb d_LW_law_1208 (by decide) (fun _ => ?_) (fun c => absurd ((lg_cmp_eq _ _).mpr (hR.2.2 c0)) c)
    refine lv_goto (tgt := 1611) hx hb d_LW_law_1213 (by decide) ?_
    refine W.widen (k := 127 + 9 * (t + 1)) (n := 14114 + 54 * (t + 1)) (by omega) (by omega) ?_
    refine lv_iinc (v := nI (6 * (t + 1))) (lv' := [(4, .int (nI (6 * (t + 1)))), (6, .int ((S_MO_ready (S_LW_ready σ (xs ((nI (6 * t)) + (1 : Int32)).toNatClampNeg)).2 (xs ((nI (6 * t)) + (1 : Int32)).toNatClampNeg)).1)), (5, .int ((S_LW_ready σ (xs ((nI (6 * t)) + (1 : Int32)).toNatClampNeg)).1)), (3, .ref (xB s + XA 31 0)), (2, .ref (xB s + XA 15 0)), (1, .ref (xB s + XA 0 0)), (0, .ref b)]) hx hb d_LW_law_1611 hl (k := 2) rfl (by show nI (6 * t) + nI 6 = _; rw [nI_add]; exact congrArg nI (by omega)) (by decide) rfl (fun ls hl => ?_)
    refine lv_goto (tgt := 23) hx hb d_LW_law_1614 (by decide) ?_
    exact ih _ _ _ ls hR.1 hX hS (lv_sub hl [0, 3, 4, 5, 6] rfl)

set_option maxHeartbeats 8000000 in
set_option maxRecDepth 100000 in
theorem k_missing {p : Program} {l : Launch} {e : Env} {s : State} {m : MethodId} {below : List Frame} {meth : Method} {c : Code} {b L : Nat} {xs : Nat → Int32} {D : va_G} {dA : Nat → ClassId} (h0 : XS0 l s #[Value.ref b] D dA) (C0 : lw_At p s m meth c b L xs) {t : Nat} (ht : t < 512) (hL : 6 * t + 6 ≤ L) (hL2 : L ≤ 3072) {σ : XS} (h : Rel t σ) {H : Heap} {locs : List Loc} (hX : XWs D dA s σ H) (hS : va_S (xAm s) s.heap H locs) {ls : Array Slot} (hl : lv_has ls 8 [(4, .int (nI (6 * t))), (3, .ref (xB s + XA 31 0)), (2, .ref (xB s + XA 15 0)), (1, .ref (xB s + XA 0 0)), (0, .ref b)])
    (ih : ∀ (σ' : XS) (H' : Heap) (locs' : List Loc) (ls' : Array Slot), Rel (t + 1) σ' → XWs D dA s σ' H' → va_S (xAm s) s.heap H' locs' → lv_has ls' 8 [(4, .int (nI (6 * (t + 1)))), (3, .ref (xB s + XA 31 0)), (2, .ref (xB s + XA 15 0)), (1, .ref (xB s + XA 0 0)), (0, .ref b)] → W p l e room_1 s m #[Value.ref b] below meth c H' locs' (127 + 9 * (t + 1)) (14114 + 54 * (t + 1)) (lw_Z below #[Value.ref b] s) (F0 m 23 ls' [])) :
    W p l e room_1 s m #[Value.ref b] below meth c H locs (127 + 9 * t) (14114 + 54 * t) (lw_Z below #[Value.ref b] s) (F0 m 1216 ls []) := by
  obtain ⟨hx, hb, hr, hml, hown, htsL, hXs, hbl, hlocks, hgv⟩ := C0
  have hbA : ¬ xAm s b := Nat.not_le.mpr hbl
  have hW0 : s.WarmedH s.vm := State.WarmedH.refl s
  have hts := xs_w (args := #[Value.ref b]) h0 hW0
  have hK := xs_K h0 hW0
  refine lv_aload_n hx hb d_LW_law_1216 rfl (lv_at hl 3 rfl) ?_
  refine lv_aload_n hx hb d_LW_law_1217 rfl (lv_at hl 4 rfl) ?_
  refine lv_iload hx hb d_LW_law_1218 (lv_at hl 0 rfl) ?_
  refine lv_iconst (v := 1) hx hb d_LW_law_1220 (by decide) ?_
  refine lv_iadd hx hb d_LW_law_1221 ?_
  refine va_sld hx hb hXs hbl hbA hS (sc_in (k := 1) (show 6 * t + 1 < L by omega) (by omega)) d_LW_law_1222 ?_
  refine lv_aload_n hx hb d_LW_law_1223 rfl (lv_at hl 4 rfl) ?_
  refine lv_iload hx hb d_LW_law_1224 (lv_at hl 0 rfl) ?_
  refine lv_iconst (v := 2) hx hb d_LW_law_1226 (by decide) ?_
  refine lv_iadd hx hb d_LW_law_1227 ?_
  refine va_sld hx hb hXs hbl hbA hS (sc_in (k := 2) (show 6 * t + 2 < L by omega) (by omega)) d_LW_law_1228 ?_
  refine lv_aload_n hx hb d_LW_law_1229 rfl (lv_at hl 1 rfl) ?_
  refine xc_s (rest := []) (x_invS (argsL := [.ref (xB s + XA 0 0), .int (xs ((nI (6 * t)) + (1 : Int32)).toNatClampNeg), .int (xs ((nI (6 * t)) + (2 : Int32)).toNatClampNeg), .ref (xB s + XA 31 0)]) hx hb hown (hts _ w_508) (hts _ w_509) (hts _ w_33) (x_codeW (hts _ w_510)) ⟨by decide, by decide⟩ rfl rfl rfl d_LW_law_1230) (c_LW_missing h0 σ (xs ((nI (6 * t)) + (1 : Int32)).toNatClampNeg) (xs ((nI (6 * t)) + (2 : Int32)).toNatClampNeg) (h.xok (by omega))) (xs_cwW h0 hW0 m_510) (hts _ w_33) ⟨rfl, rfl, Nat.le_of_ble_eq_true rfl, Nat.le_of_ble_eq_true rfl⟩ (hl.1.trans hml.symm) (by rw [hb]; exact d_LW_law_1230) (Nat.le_of_ble_eq_true rfl) ⟨by show _ ≤ 601024; omega, by show _ ≤ 7293034; omega⟩ hX hW0 hS (fun v σ1 H locs hM hX hS => ?_) (fun E x H1 locs1 hM => by cases hM)
  obtain ⟨ev, es⟩ := x_inl hM
  subst es
  subst ev
  have hR := r_missing h ht (xs ((nI (6 * t)) + (1 : Int32)).toNatClampNeg) (xs ((nI (6 * t)) + (2 : Int32)).toNatClampNeg)
  refine lv_istore (lv' := [(5, .int ((S_LW_missing σ (xs ((nI (6 * t)) + (1 : Int32)).toNatClampNeg) (xs ((nI (6 * t)) + (2 : Int32)).toNatClampNeg)).1)), (4, .int (nI (6 * t))), (3, .ref (xB s + XA 31 0)), (2, .ref (xB s + XA 15 0)), (1, .ref (xB s + XA 0 0)), (0, .ref b)]) hx hb d_LW_law_1233 hl (by decide) rfl (fun ls hl => ?_)
  refine lv_aload_n hx hb d_LW_law_1235 rfl (lv_at hl 3 rfl) ?_
  refine lv_aload_n hx hb d_LW_law_1236 rfl (lv_at hl 5 rfl) ?_
  refine lv_iload hx hb d_LW_law_1237 (lv_at hl 1 rfl) ?_
  refine lv_iconst (v := 1) hx hb d_LW_law_1239 (by decide) ?_
  refine lv_iadd hx hb d_LW_law_1240 ?_
  refine va_sld hx hb hXs hbl hbA hS (sc_in (k := 1) (show 6 * t + 1 < L by omega) (by omega)) d_LW_law_1241 ?_
  refine lv_aload_n hx hb d_LW_law_1242 rfl (lv_at hl 5 rfl) ?_
  refine lv_iload hx hb d_LW_law_1243 (lv_at hl 1 rfl) ?_
  refine lv_iconst (v := 2) hx hb d_LW_law_1245 (by decide) ?_
  refine lv_iadd hx hb d_LW_law_1246 ?_
  refine va_sld hx hb hXs hbl hbA hS (sc_in (k := 2) (show 6 * t + 2 < L by omega) (by omega)) d_LW_law_1247 ?_
  obtain ⟨cB, hcB, hoB, hkB⟩ := xw_recv (r := 15) (i := 0) hK hX (by decide) rfl rfl
  refine xc_s (rest := []) (x_invV (argsL := [.int (xs ((nI (6 * t)) + (1 : Int32)).toNatClampNeg), .int (xs ((nI (6 * t)) + (2 : Int32)).toNatClampNeg)]) hx hb hown (hts _ w_790) (hts _ w_791) (hts _ w_792) (x_code (hts _ w_793)) ⟨by decide, by decide⟩ hcB hoB hkB rfl rfl rfl d_LW_law_1248) (c_MO_missing h0 (S_LW_missing σ (xs ((nI (6 * t)) + (1 : Int32)).toNatClampNeg) (xs ((nI (6 * t)) + (2 : Int32)).toNatClampNeg)).2 (xs ((nI (6 * t)) + (1 : Int32)).toNatClampNeg) (xs ((nI (6 * t)) + (2 : Int32)).toNatClampNeg) (mok_kp (h.mok (by omega)) kp_missing)) (xs_cw h0 hW0 m_793) (hts _ w_38) ⟨rfl, rfl, Nat.le_of_ble_eq_true rfl, Nat.le_of_ble_eq_true rfl⟩ (hl.1.trans hml.symm) (by rw [hb]; exact d_LW_law_1248) (Nat.le_of_ble_eq_true rfl) ⟨by show _ ≤ 601024; omega, by show _ ≤ 7293034; omega⟩ hX hW0 hS (fun v σ1 H locs hM hX hS => ?_) (fun E x H1 locs1 hM => by cases hM)
  obtain ⟨ev, es⟩ := x_inl hM
  subst es
  subst ev
  refine lv_istore (lv' := [(6, .int ((S_MO_missing (S_LW_missing σ (xs ((nI (6 * t)) + (1 : Int32)).toNatClampNeg) (xs ((nI (6 * t)) + (2 : Int32)).toNatClampNeg)).2 (xs ((nI (6 * t)) + (1 : Int32)).toNatClampNeg) (xs ((nI (6 * t)) + (2 : Int32)).toNatClampNeg)).1)), (5, .int ((S_LW_missing σ (xs ((nI (6 * t)) + (1 : Int32)).toNatClampNeg) (xs ((nI (6 * t)) + (2 : Int32)).toNatClampNeg)).1)), (4, .int (nI (6 * t))), (3, .ref (xB s + XA 31 0)), (2, .ref (xB s + XA 15 0)), (1, .ref (xB s + XA 0 0)), (0, .ref b)]) hx hb d_LW_law_1251 hl (by decide) rfl (fun ls hl => ?_)
  refine lv_aload_n hx hb d_LW_law_1253 rfl (lv_at hl 4 rfl) ?_
  obtain ⟨cB1254, hcB1254, hoB1254, hkB1254⟩ := xw_recv (r := 15) (i := 0) hK hX (by decide) rfl rfl
  refine xc_f (rest := []) (x_invV (argsL := []) hx hb hown (hts _ w_656) (hts _ w_657) (hts _ w_658) (x_code (hts _ w_659)) ⟨by decide, by decide⟩ hcB1254 hoB1254 hkB1254 rfl rfl rfl d_LW_law_1254) (c_MO_thrown h0 (S_MO_missing (S_LW_missing σ (xs ((nI (6 * t)) + (1 : Int32)).toNatClampNeg) (xs ((nI (6 * t)) + (2 : Int32)).toNatClampNeg)).2 (xs ((nI (6 * t)) + (1 : Int32)).toNatClampNeg) (xs ((nI (6 * t)) + (2 : Int32)).toNatClampNeg)).2) (xs_cw h0 hW0 m_659) (hts _ w_38) ⟨rfl, rfl, Nat.le_of_ble_eq_true rfl, Nat.le_of_ble_eq_true rfl⟩ (hl.1.trans hml.symm) (by rw [hb]; exact d_LW_law_1254) (Nat.le_of_ble_eq_true rfl) ⟨by show _ ≤ 601024; omega, by show _ ≤ 7293034; omega⟩ hX ⟨hW0, xo_S hS⟩ ?_
  refine lv_iload hx hb d_LW_law_1257 (lv_at hl 1 rfl) ?_
  refine lv_icmp_eq (tgt := 1264) hx hb d_LW_law_1259 (by decide) (fun _ => ?_) (fun c => absurd hR.2.1 c)
  refine lv_iload hx hb d_LW_law_1264 (lv_at hl 1 rfl) ?_
  refine lv_if_ne (tgt := 1281) hx hb d_LW_law_1266 (by decide) (fun c0 => ?_) (fun c0 => ?_)
  · refine lv_goto (tgt := 1611) hx hb d_LW_law_1281 (by decide) ?_
    refine W.widen (k := 127 + 9 * (t + 1)) (n := 14114 + 54 * (t + 1)) (by omega) (by omega) ?_
    refine lv_iinc (v := nI (6 * (t + 1))) (lv' := [(4, .int (nI (6 * (t + 1)))), (6, .int ((S_MO_missing (S_LW_missing σ (xs ((nI (6 * t)) + (1 : Int32)).toNatClampNeg) (xs ((nI (6 * t)) + (2 : Int32)).toNatClampNeg)).2 (xs ((nI (6 * t)) + (1 : Int32)).toNatClampNeg) (xs ((nI (6 * t)) + (2 : Int32)).toNatClampNeg)).1)), (5, .int ((S_LW_missing σ (xs ((nI (6 * t)) + (1 : Int32)).toNatClampNeg) (xs ((nI (6 * t)) + (2 : Int32)).toNatClampNeg)).1)), (3, .ref (xB s + XA 31 0)), (2, .ref (xB s + XA 15 0)), (1, .ref (xB s + XA 0 0)), (0, .ref b)]) hx hb d_LW_law_1611 hl (k := 2) rfl (by show nI (6 * t) + nI 6 = _; rw [nI_add]; exact congrArg nI (by omega)) (by decide) rfl (fun ls hl => ?_)
    refine lv_goto (tgt := 23) hx hb d_LW_law_1614 (by decide) ?_
    exact ih _ _ _ ls hR.1 hX hS (lv_sub hl [0, 3, 4, 5, 6] rfl)
  · refine lv_aload_n hx hb d_LW_law_1269 rfl (lv_at hl 3 rfl) ?_
    refine lv_iconst (v := 0) hx hb d_LW_law_1270 (by decide) ?_
    refine xw_lald (r := 31) (i := 0) hx hb hK hX (by decide) 2 rfl rfl (j := 0) (pk_in 0 1 (by decide)) d_LW_law_1271 ?_
    refine lv_iload hx hb d_LW_law_1272 (lv_at hl 0 rfl) ?_
    refine lv_i2l hx hb d_LW_law_1274 rfl ?_
    refine W.lcmp hx hb d_LW_law_1275 ?_
    refine lv_if_eq (tgt := 1281) hx hb d_LW_law_1276 (by decide) (fun _ => ?_) (fun c => absurd ((lg_cmp_eq _ _).mpr (hR.2.2 c0)) c)
    refine lv_goto (tgt := 1611) hx hb d_LW_law_1281 (by decide) ?_
    refine W.widen (k := 127 + 9 * (t + 1)) (n := 14114 + 54 * (t + 1)) (by omega) (by omega) ?_
    refine lv_iinc (v := nI (6 * (t + 1))) (lv' := [(4, .int (nI (6 * (t + 1)))), (6, .int ((S_MO_missing (S_LW_missing σ (xs ((nI (6 * t)) + (1 : Int32)).toNatClampNeg) (xs ((nI (6 * t)) + (2 : Int32)).toNatClampNeg)).2 (xs ((nI (6 * t)) + (1 : Int32)).toNatClampNeg) (xs ((nI (6 * t)) + (2 : Int32)).toNatClampNeg)).1)), (5, .int ((S_LW_missing σ (xs ((nI (6 * t)) + (1 : Int32)).toNatClampNeg) (xs ((nI (6 * t)) + (2 : Int32)).toNatClampNeg)).1)), (3, .ref (xB s + XA 31 0)), (2, .ref (xB s + XA 15 0)), (1, .ref (xB s + XA 0 0)), (0, .ref b)]) hx hb d_LW_law_1611 hl (k := 2) rfl (by show nI (6 * t) + nI 6 = _; rw [nI_add]; exact congrArg nI (by omega)) (by decide) rfl (fun ls hl => ?_)
    refine lv_goto (tgt := 23) hx hb d_LW_law_1614 (by decide) ?_
    exact ih _ _ _ ls hR.1 hX hS (lv_sub hl [0, 3, 4, 5, 6] rfl)

set_option maxHeartbeats 8000000 in
set_option maxRecDepth 100000 in
theorem k_share {p : Program} {l : Launch} {e : Env} {s : State} {m : MethodId} {below : List Frame} {meth : Method} {c : Code} {b L : Nat} {xs : Nat → Int32} {D : va_G} {dA : Nat → ClassId} (h0 : XS0 l s #[Value.ref b] D dA) (C0 : lw_At p s m meth c b L xs) {t : Nat} (ht : t < 512) (hL : 6 * t + 6 ≤ L) (hL2 : L ≤ 3072) {σ : XS} (h : Rel t σ) {H : Heap} {locs : List Loc} (hX : XWs D dA s σ H) (hS : va_S (xAm s) s.heap H locs) {ls : Array Slot} (hl : lv_has ls 8 [(4, .int (nI (6 * t))), (3, .ref (xB s + XA 31 0)), (2, .ref (xB s + XA 15 0)), (1, .ref (xB s + XA 0 0)), (0, .ref b)])
    (ih : ∀ (σ' : XS) (H' : Heap) (locs' : List Loc) (ls' : Array Slot), Rel (t + 1) σ' → XWs D dA s σ' H' → va_S (xAm s) s.heap H' locs' → lv_has ls' 8 [(4, .int (nI (6 * (t + 1)))), (3, .ref (xB s + XA 31 0)), (2, .ref (xB s + XA 15 0)), (1, .ref (xB s + XA 0 0)), (0, .ref b)] → W p l e room_1 s m #[Value.ref b] below meth c H' locs' (127 + 9 * (t + 1)) (14114 + 54 * (t + 1)) (lw_Z below #[Value.ref b] s) (F0 m 23 ls' [])) :
    W p l e room_1 s m #[Value.ref b] below meth c H locs (127 + 9 * t) (14114 + 54 * t) (lw_Z below #[Value.ref b] s) (F0 m 1284 ls []) := by
  obtain ⟨hx, hb, hr, hml, hown, htsL, hXs, hbl, hlocks, hgv⟩ := C0
  have hbA : ¬ xAm s b := Nat.not_le.mpr hbl
  have hW0 : s.WarmedH s.vm := State.WarmedH.refl s
  have hts := xs_w (args := #[Value.ref b]) h0 hW0
  have hK := xs_K h0 hW0
  refine lv_aload_n hx hb d_LW_law_1284 rfl (lv_at hl 3 rfl) ?_
  refine lv_aload_n hx hb d_LW_law_1285 rfl (lv_at hl 4 rfl) ?_
  refine lv_iload hx hb d_LW_law_1286 (lv_at hl 0 rfl) ?_
  refine lv_iconst (v := 1) hx hb d_LW_law_1288 (by decide) ?_
  refine lv_iadd hx hb d_LW_law_1289 ?_
  refine va_sld hx hb hXs hbl hbA hS (sc_in (k := 1) (show 6 * t + 1 < L by omega) (by omega)) d_LW_law_1290 ?_
  refine lv_aload_n hx hb d_LW_law_1291 rfl (lv_at hl 1 rfl) ?_
  refine xc_s (rest := []) (x_invS (argsL := [.ref (xB s + XA 0 0), .int (xs ((nI (6 * t)) + (1 : Int32)).toNatClampNeg), .ref (xB s + XA 31 0)]) hx hb hown (hts _ w_516) (hts _ w_517) (hts _ w_33) (x_codeW (hts _ w_518)) ⟨by decide, by decide⟩ rfl rfl rfl d_LW_law_1292) (c_LW_share h0 σ (xs ((nI (6 * t)) + (1 : Int32)).toNatClampNeg) (h.xok (by omega))) (xs_cwW h0 hW0 m_518) (hts _ w_33) ⟨rfl, rfl, Nat.le_of_ble_eq_true rfl, Nat.le_of_ble_eq_true rfl⟩ (hl.1.trans hml.symm) (by rw [hb]; exact d_LW_law_1292) (Nat.le_of_ble_eq_true rfl) ⟨by show _ ≤ 601024; omega, by show _ ≤ 7293034; omega⟩ hX hW0 hS (fun v σ1 H locs hM hX hS => ?_) (fun E x H1 locs1 hM => by cases hM)
  obtain ⟨ev, es⟩ := x_inl hM
  subst es
  subst ev
  have hR := r_share h ht (xs ((nI (6 * t)) + (1 : Int32)).toNatClampNeg)
  refine lv_istore (lv' := [(5, .int ((S_LW_share σ (xs ((nI (6 * t)) + (1 : Int32)).toNatClampNeg)).1)), (4, .int (nI (6 * t))), (3, .ref (xB s + XA 31 0)), (2, .ref (xB s + XA 15 0)), (1, .ref (xB s + XA 0 0)), (0, .ref b)]) hx hb d_LW_law_1295 hl (by decide) rfl (fun ls hl => ?_)
  refine lv_aload_n hx hb d_LW_law_1297 rfl (lv_at hl 3 rfl) ?_
  refine lv_aload_n hx hb d_LW_law_1298 rfl (lv_at hl 5 rfl) ?_
  refine lv_iload hx hb d_LW_law_1299 (lv_at hl 1 rfl) ?_
  refine lv_iconst (v := 1) hx hb d_LW_law_1301 (by decide) ?_
  refine lv_iadd hx hb d_LW_law_1302 ?_
  refine va_sld hx hb hXs hbl hbA hS (sc_in (k := 1) (show 6 * t + 1 < L by omega) (by omega)) d_LW_law_1303 ?_
  obtain ⟨cB, hcB, hoB, hkB⟩ := xw_recv (r := 15) (i := 0) hK hX (by decide) rfl rfl
  refine xc_s (rest := []) (x_invV (argsL := [.int (xs ((nI (6 * t)) + (1 : Int32)).toNatClampNeg)]) hx hb hown (hts _ w_794) (hts _ w_795) (hts _ w_796) (x_code (hts _ w_797)) ⟨by decide, by decide⟩ hcB hoB hkB rfl rfl rfl d_LW_law_1304) (c_MO_share h0 (S_LW_share σ (xs ((nI (6 * t)) + (1 : Int32)).toNatClampNeg)).2 (xs ((nI (6 * t)) + (1 : Int32)).toNatClampNeg) (mok_kp (h.mok (by omega)) kp_share)) (xs_cw h0 hW0 m_797) (hts _ w_38) ⟨rfl, rfl, Nat.le_of_ble_eq_true rfl, Nat.le_of_ble_eq_true rfl⟩ (hl.1.trans hml.symm) (by rw [hb]; exact d_LW_law_1304) (Nat.le_of_ble_eq_true rfl) ⟨by show _ ≤ 601024; omega, by show _ ≤ 7293034; omega⟩ hX hW0 hS (fun v σ1 H locs hM hX hS => ?_) (fun E x H1 locs1 hM => by cases hM)
  obtain ⟨ev, es⟩ := x_inl hM
  subst es
  subst ev
  refine lv_istore (lv' := [(6, .int ((S_MO_share (S_LW_share σ (xs ((nI (6 * t)) + (1 : Int32)).toNatClampNeg)).2 (xs ((nI (6 * t)) + (1 : Int32)).toNatClampNeg)).1)), (5, .int ((S_LW_share σ (xs ((nI (6 * t)) + (1 : Int32)).toNatClampNeg)).1)), (4, .int (nI (6 * t))), (3, .ref (xB s + XA 31 0)), (2, .ref (xB s + XA 15 0)), (1, .ref (xB s + XA 0 0)), (0, .ref b)]) hx hb d_LW_law_1307 hl (by decide) rfl (fun ls hl => ?_)
  refine lv_aload_n hx hb d_LW_law_1309 rfl (lv_at hl 4 rfl) ?_
  obtain ⟨cB1310, hcB1310, hoB1310, hkB1310⟩ := xw_recv (r := 15) (i := 0) hK hX (by decide) rfl rfl
  refine xc_f (rest := []) (x_invV (argsL := []) hx hb hown (hts _ w_656) (hts _ w_657) (hts _ w_658) (x_code (hts _ w_659)) ⟨by decide, by decide⟩ hcB1310 hoB1310 hkB1310 rfl rfl rfl d_LW_law_1310) (c_MO_thrown h0 (S_MO_share (S_LW_share σ (xs ((nI (6 * t)) + (1 : Int32)).toNatClampNeg)).2 (xs ((nI (6 * t)) + (1 : Int32)).toNatClampNeg)).2) (xs_cw h0 hW0 m_659) (hts _ w_38) ⟨rfl, rfl, Nat.le_of_ble_eq_true rfl, Nat.le_of_ble_eq_true rfl⟩ (hl.1.trans hml.symm) (by rw [hb]; exact d_LW_law_1310) (Nat.le_of_ble_eq_true rfl) ⟨by show _ ≤ 601024; omega, by show _ ≤ 7293034; omega⟩ hX ⟨hW0, xo_S hS⟩ ?_
  refine lv_iload hx hb d_LW_law_1313 (lv_at hl 1 rfl) ?_
  refine lv_icmp_eq (tgt := 1320) hx hb d_LW_law_1315 (by decide) (fun _ => ?_) (fun c => absurd hR.2.1 c)
  refine lv_iload hx hb d_LW_law_1320 (lv_at hl 1 rfl) ?_
  refine lv_if_ne (tgt := 1337) hx hb d_LW_law_1322 (by decide) (fun c0 => ?_) (fun c0 => ?_)
  · refine lv_goto (tgt := 1611) hx hb d_LW_law_1337 (by decide) ?_
    refine W.widen (k := 127 + 9 * (t + 1)) (n := 14114 + 54 * (t + 1)) (by omega) (by omega) ?_
    refine lv_iinc (v := nI (6 * (t + 1))) (lv' := [(4, .int (nI (6 * (t + 1)))), (6, .int ((S_MO_share (S_LW_share σ (xs ((nI (6 * t)) + (1 : Int32)).toNatClampNeg)).2 (xs ((nI (6 * t)) + (1 : Int32)).toNatClampNeg)).1)), (5, .int ((S_LW_share σ (xs ((nI (6 * t)) + (1 : Int32)).toNatClampNeg)).1)), (3, .ref (xB s + XA 31 0)), (2, .ref (xB s + XA 15 0)), (1, .ref (xB s + XA 0 0)), (0, .ref b)]) hx hb d_LW_law_1611 hl (k := 2) rfl (by show nI (6 * t) + nI 6 = _; rw [nI_add]; exact congrArg nI (by omega)) (by decide) rfl (fun ls hl => ?_)
    refine lv_goto (tgt := 23) hx hb d_LW_law_1614 (by decide) ?_
    exact ih _ _ _ ls hR.1 hX hS (lv_sub hl [0, 3, 4, 5, 6] rfl)
  · refine lv_aload_n hx hb d_LW_law_1325 rfl (lv_at hl 3 rfl) ?_
    refine lv_iconst (v := 0) hx hb d_LW_law_1326 (by decide) ?_
    refine xw_lald (r := 31) (i := 0) hx hb hK hX (by decide) 2 rfl rfl (j := 0) (pk_in 0 1 (by decide)) d_LW_law_1327 ?_
    refine lv_iload hx hb d_LW_law_1328 (lv_at hl 0 rfl) ?_
    refine lv_i2l hx hb d_LW_law_1330 rfl ?_
    refine W.lcmp hx hb d_LW_law_1331 ?_
    refine lv_if_eq (tgt := 1337) hx hb d_LW_law_1332 (by decide) (fun _ => ?_) (fun c => absurd ((lg_cmp_eq _ _).mpr (hR.2.2 c0)) c)
    refine lv_goto (tgt := 1611) hx hb d_LW_law_1337 (by decide) ?_
    refine W.widen (k := 127 + 9 * (t + 1)) (n := 14114 + 54 * (t + 1)) (by omega) (by omega) ?_
    refine lv_iinc (v := nI (6 * (t + 1))) (lv' := [(4, .int (nI (6 * (t + 1)))), (6, .int ((S_MO_share (S_LW_share σ (xs ((nI (6 * t)) + (1 : Int32)).toNatClampNeg)).2 (xs ((nI (6 * t)) + (1 : Int32)).toNatClampNeg)).1)), (5, .int ((S_LW_share σ (xs ((nI (6 * t)) + (1 : Int32)).toNatClampNeg)).1)), (3, .ref (xB s + XA 31 0)), (2, .ref (xB s + XA 15 0)), (1, .ref (xB s + XA 0 0)), (0, .ref b)]) hx hb d_LW_law_1611 hl (k := 2) rfl (by show nI (6 * t) + nI 6 = _; rw [nI_add]; exact congrArg nI (by omega)) (by decide) rfl (fun ls hl => ?_)
    refine lv_goto (tgt := 23) hx hb d_LW_law_1614 (by decide) ?_
    exact ih _ _ _ ls hR.1 hX hS (lv_sub hl [0, 3, 4, 5, 6] rfl)

set_option maxHeartbeats 8000000 in
set_option maxRecDepth 100000 in
theorem k_axle {p : Program} {l : Launch} {e : Env} {s : State} {m : MethodId} {below : List Frame} {meth : Method} {c : Code} {b L : Nat} {xs : Nat → Int32} {D : va_G} {dA : Nat → ClassId} (h0 : XS0 l s #[Value.ref b] D dA) (C0 : lw_At p s m meth c b L xs) {t : Nat} (ht : t < 512) (hL : 6 * t + 6 ≤ L) (hL2 : L ≤ 3072) {σ : XS} (h : Rel t σ) {H : Heap} {locs : List Loc} (hX : XWs D dA s σ H) (hS : va_S (xAm s) s.heap H locs) {ls : Array Slot} (hl : lv_has ls 8 [(4, .int (nI (6 * t))), (3, .ref (xB s + XA 31 0)), (2, .ref (xB s + XA 15 0)), (1, .ref (xB s + XA 0 0)), (0, .ref b)])
    (ih : ∀ (σ' : XS) (H' : Heap) (locs' : List Loc) (ls' : Array Slot), Rel (t + 1) σ' → XWs D dA s σ' H' → va_S (xAm s) s.heap H' locs' → lv_has ls' 8 [(4, .int (nI (6 * (t + 1)))), (3, .ref (xB s + XA 31 0)), (2, .ref (xB s + XA 15 0)), (1, .ref (xB s + XA 0 0)), (0, .ref b)] → W p l e room_1 s m #[Value.ref b] below meth c H' locs' (127 + 9 * (t + 1)) (14114 + 54 * (t + 1)) (lw_Z below #[Value.ref b] s) (F0 m 23 ls' [])) :
    W p l e room_1 s m #[Value.ref b] below meth c H locs (127 + 9 * t) (14114 + 54 * t) (lw_Z below #[Value.ref b] s) (F0 m 1340 ls []) := by
  obtain ⟨hx, hb, hr, hml, hown, htsL, hXs, hbl, hlocks, hgv⟩ := C0
  have hbA : ¬ xAm s b := Nat.not_le.mpr hbl
  have hW0 : s.WarmedH s.vm := State.WarmedH.refl s
  have hts := xs_w (args := #[Value.ref b]) h0 hW0
  have hK := xs_K h0 hW0
  refine lv_aload_n hx hb d_LW_law_1340 rfl (lv_at hl 3 rfl) ?_
  refine lv_aload_n hx hb d_LW_law_1341 rfl (lv_at hl 4 rfl) ?_
  refine lv_iload hx hb d_LW_law_1342 (lv_at hl 0 rfl) ?_
  refine lv_iconst (v := 1) hx hb d_LW_law_1344 (by decide) ?_
  refine lv_iadd hx hb d_LW_law_1345 ?_
  refine va_sld hx hb hXs hbl hbA hS (sc_in (k := 1) (show 6 * t + 1 < L by omega) (by omega)) d_LW_law_1346 ?_
  refine lv_aload_n hx hb d_LW_law_1347 rfl (lv_at hl 4 rfl) ?_
  refine lv_iload hx hb d_LW_law_1348 (lv_at hl 0 rfl) ?_
  refine lv_iconst (v := 2) hx hb d_LW_law_1350 (by decide) ?_
  refine lv_iadd hx hb d_LW_law_1351 ?_
  refine va_sld hx hb hXs hbl hbA hS (sc_in (k := 2) (show 6 * t + 2 < L by omega) (by omega)) d_LW_law_1352 ?_
  refine lv_aload_n hx hb d_LW_law_1353 rfl (lv_at hl 1 rfl) ?_
  refine xc_s (rest := []) (x_invS (argsL := [.ref (xB s + XA 0 0), .int (xs ((nI (6 * t)) + (1 : Int32)).toNatClampNeg), .int (xs ((nI (6 * t)) + (2 : Int32)).toNatClampNeg), .ref (xB s + XA 31 0)]) hx hb hown (hts _ w_540) (hts _ w_541) (hts _ w_33) (x_codeW (hts _ w_542)) ⟨by decide, by decide⟩ rfl rfl rfl d_LW_law_1354) (c_LW_axle h0 σ (xs ((nI (6 * t)) + (1 : Int32)).toNatClampNeg) (xs ((nI (6 * t)) + (2 : Int32)).toNatClampNeg) (h.xok (by omega))) (xs_cwW h0 hW0 m_542) (hts _ w_33) ⟨rfl, rfl, Nat.le_of_ble_eq_true rfl, Nat.le_of_ble_eq_true rfl⟩ (hl.1.trans hml.symm) (by rw [hb]; exact d_LW_law_1354) (Nat.le_of_ble_eq_true rfl) ⟨by show _ ≤ 601024; omega, by show _ ≤ 7293034; omega⟩ hX hW0 hS (fun v σ1 H locs hM hX hS => ?_) (fun E x H1 locs1 hM => by cases hM)
  obtain ⟨ev, es⟩ := x_inl hM
  subst es
  subst ev
  have hR := r_axle h ht (xs ((nI (6 * t)) + (1 : Int32)).toNatClampNeg) (xs ((nI (6 * t)) + (2 : Int32)).toNatClampNeg)
  refine lv_istore (lv' := [(5, .int ((S_LW_axle σ (xs ((nI (6 * t)) + (1 : Int32)).toNatClampNeg) (xs ((nI (6 * t)) + (2 : Int32)).toNatClampNeg)).1)), (4, .int (nI (6 * t))), (3, .ref (xB s + XA 31 0)), (2, .ref (xB s + XA 15 0)), (1, .ref (xB s + XA 0 0)), (0, .ref b)]) hx hb d_LW_law_1357 hl (by decide) rfl (fun ls hl => ?_)
  refine lv_aload_n hx hb d_LW_law_1359 rfl (lv_at hl 3 rfl) ?_
  refine lv_aload_n hx hb d_LW_law_1360 rfl (lv_at hl 5 rfl) ?_
  refine lv_iload hx hb d_LW_law_1361 (lv_at hl 1 rfl) ?_
  refine lv_iconst (v := 1) hx hb d_LW_law_1363 (by decide) ?_
  refine lv_iadd hx hb d_LW_law_1364 ?_
  refine va_sld hx hb hXs hbl hbA hS (sc_in (k := 1) (show 6 * t + 1 < L by omega) (by omega)) d_LW_law_1365 ?_
  refine lv_aload_n hx hb d_LW_law_1366 rfl (lv_at hl 5 rfl) ?_
  refine lv_iload hx hb d_LW_law_1367 (lv_at hl 1 rfl) ?_
  refine lv_iconst (v := 2) hx hb d_LW_law_1369 (by decide) ?_
  refine lv_iadd hx hb d_LW_law_1370 ?_
  refine va_sld hx hb hXs hbl hbA hS (sc_in (k := 2) (show 6 * t + 2 < L by omega) (by omega)) d_LW_law_1371 ?_
  obtain ⟨cB, hcB, hoB, hkB⟩ := xw_recv (r := 15) (i := 0) hK hX (by decide) rfl rfl
  refine xc_s (rest := []) (x_invV (argsL := [.int (xs ((nI (6 * t)) + (1 : Int32)).toNatClampNeg), .int (xs ((nI (6 * t)) + (2 : Int32)).toNatClampNeg)]) hx hb hown (hts _ w_798) (hts _ w_799) (hts _ w_800) (x_code (hts _ w_801)) ⟨by decide, by decide⟩ hcB hoB hkB rfl rfl rfl d_LW_law_1372) (c_MO_axle h0 (S_LW_axle σ (xs ((nI (6 * t)) + (1 : Int32)).toNatClampNeg) (xs ((nI (6 * t)) + (2 : Int32)).toNatClampNeg)).2 (xs ((nI (6 * t)) + (1 : Int32)).toNatClampNeg) (xs ((nI (6 * t)) + (2 : Int32)).toNatClampNeg) (mok_kp (h.mok (by omega)) kp_axle)) (xs_cw h0 hW0 m_801) (hts _ w_38) ⟨rfl, rfl, Nat.le_of_ble_eq_true rfl, Nat.le_of_ble_eq_true rfl⟩ (hl.1.trans hml.symm) (by rw [hb]; exact d_LW_law_1372) (Nat.le_of_ble_eq_true rfl) ⟨by show _ ≤ 601024; omega, by show _ ≤ 7293034; omega⟩ hX hW0 hS (fun v σ1 H locs hM hX hS => ?_) (fun E x H1 locs1 hM => by cases hM)
  obtain ⟨ev, es⟩ := x_inl hM
  subst es
  subst ev
  refine lv_lstore (lv' := [(6, .long ((S_MO_axle (S_LW_axle σ (xs ((nI (6 * t)) + (1 : Int32)).toNatClampNeg) (xs ((nI (6 * t)) + (2 : Int32)).toNatClampNeg)).2 (xs ((nI (6 * t)) + (1 : Int32)).toNatClampNeg) (xs ((nI (6 * t)) + (2 : Int32)).toNatClampNeg)).1)), (5, .int ((S_LW_axle σ (xs ((nI (6 * t)) + (1 : Int32)).toNatClampNeg) (xs ((nI (6 * t)) + (2 : Int32)).toNatClampNeg)).1)), (4, .int (nI (6 * t))), (3, .ref (xB s + XA 31 0)), (2, .ref (xB s + XA 15 0)), (1, .ref (xB s + XA 0 0)), (0, .ref b)]) hx hb d_LW_law_1375 hl (by decide) rfl (fun ls hl => ?_)
  refine lv_aload_n hx hb d_LW_law_1377 rfl (lv_at hl 4 rfl) ?_
  obtain ⟨cB1378, hcB1378, hoB1378, hkB1378⟩ := xw_recv (r := 15) (i := 0) hK hX (by decide) rfl rfl
  refine xc_f (rest := []) (x_invV (argsL := []) hx hb hown (hts _ w_656) (hts _ w_657) (hts _ w_658) (x_code (hts _ w_659)) ⟨by decide, by decide⟩ hcB1378 hoB1378 hkB1378 rfl rfl rfl d_LW_law_1378) (c_MO_thrown h0 (S_MO_axle (S_LW_axle σ (xs ((nI (6 * t)) + (1 : Int32)).toNatClampNeg) (xs ((nI (6 * t)) + (2 : Int32)).toNatClampNeg)).2 (xs ((nI (6 * t)) + (1 : Int32)).toNatClampNeg) (xs ((nI (6 * t)) + (2 : Int32)).toNatClampNeg)).2) (xs_cw h0 hW0 m_659) (hts _ w_38) ⟨rfl, rfl, Nat.le_of_ble_eq_true rfl, Nat.le_of_ble_eq_true rfl⟩ (hl.1.trans hml.symm) (by rw [hb]; exact d_LW_law_1378) (Nat.le_of_ble_eq_true rfl) ⟨by show _ ≤ 601024; omega, by show _ ≤ 7293034; omega⟩ hX ⟨hW0, xo_S hS⟩ ?_
  refine lv_iload hx hb d_LW_law_1381 (lv_at hl 1 rfl) ?_
  refine lv_icmp_eq (tgt := 1388) hx hb d_LW_law_1383 (by decide) (fun _ => ?_) (fun c => absurd hR.2.1 c)
  refine lv_iload hx hb d_LW_law_1388 (lv_at hl 1 rfl) ?_
  refine lv_if_ne (tgt := 1404) hx hb d_LW_law_1390 (by decide) (fun c0 => ?_) (fun c0 => ?_)
  · refine lv_goto (tgt := 1611) hx hb d_LW_law_1404 (by decide) ?_
    refine W.widen (k := 127 + 9 * (t + 1)) (n := 14114 + 54 * (t + 1)) (by omega) (by omega) ?_
    refine lv_iinc (v := nI (6 * (t + 1))) (lv' := [(4, .int (nI (6 * (t + 1)))), (6, .long ((S_MO_axle (S_LW_axle σ (xs ((nI (6 * t)) + (1 : Int32)).toNatClampNeg) (xs ((nI (6 * t)) + (2 : Int32)).toNatClampNeg)).2 (xs ((nI (6 * t)) + (1 : Int32)).toNatClampNeg) (xs ((nI (6 * t)) + (2 : Int32)).toNatClampNeg)).1)), (5, .int ((S_LW_axle σ (xs ((nI (6 * t)) + (1 : Int32)).toNatClampNeg) (xs ((nI (6 * t)) + (2 : Int32)).toNatClampNeg)).1)), (3, .ref (xB s + XA 31 0)), (2, .ref (xB s + XA 15 0)), (1, .ref (xB s + XA 0 0)), (0, .ref b)]) hx hb d_LW_law_1611 hl (k := 2) rfl (by show nI (6 * t) + nI 6 = _; rw [nI_add]; exact congrArg nI (by omega)) (by decide) rfl (fun ls hl => ?_)
    refine lv_goto (tgt := 23) hx hb d_LW_law_1614 (by decide) ?_
    exact ih _ _ _ ls hR.1 hX hS (lv_sub hl [0, 3, 4, 5, 6] rfl)
  · refine lv_aload_n hx hb d_LW_law_1393 rfl (lv_at hl 3 rfl) ?_
    refine lv_iconst (v := 0) hx hb d_LW_law_1394 (by decide) ?_
    refine xw_lald (r := 31) (i := 0) hx hb hK hX (by decide) 2 rfl rfl (j := 0) (pk_in 0 1 (by decide)) d_LW_law_1395 ?_
    refine lv_lload hx hb d_LW_law_1396 (lv_at hl 0 rfl) ?_
    refine W.lcmp hx hb d_LW_law_1398 ?_
    refine lv_if_eq (tgt := 1404) hx hb d_LW_law_1399 (by decide) (fun _ => ?_) (fun c => absurd ((lg_cmp_eq _ _).mpr (hR.2.2 c0)) c)
    refine lv_goto (tgt := 1611) hx hb d_LW_law_1404 (by decide) ?_
    refine W.widen (k := 127 + 9 * (t + 1)) (n := 14114 + 54 * (t + 1)) (by omega) (by omega) ?_
    refine lv_iinc (v := nI (6 * (t + 1))) (lv' := [(4, .int (nI (6 * (t + 1)))), (6, .long ((S_MO_axle (S_LW_axle σ (xs ((nI (6 * t)) + (1 : Int32)).toNatClampNeg) (xs ((nI (6 * t)) + (2 : Int32)).toNatClampNeg)).2 (xs ((nI (6 * t)) + (1 : Int32)).toNatClampNeg) (xs ((nI (6 * t)) + (2 : Int32)).toNatClampNeg)).1)), (5, .int ((S_LW_axle σ (xs ((nI (6 * t)) + (1 : Int32)).toNatClampNeg) (xs ((nI (6 * t)) + (2 : Int32)).toNatClampNeg)).1)), (3, .ref (xB s + XA 31 0)), (2, .ref (xB s + XA 15 0)), (1, .ref (xB s + XA 0 0)), (0, .ref b)]) hx hb d_LW_law_1611 hl (k := 2) rfl (by show nI (6 * t) + nI 6 = _; rw [nI_add]; exact congrArg nI (by omega)) (by decide) rfl (fun ls hl => ?_)
    refine lv_goto (tgt := 23) hx hb d_LW_law_1614 (by decide) ?_
    exact ih _ _ _ ls hR.1 hX hS (lv_sub hl [0, 3, 4, 5, 6] rfl)

set_option maxHeartbeats 8000000 in
set_option maxRecDepth 100000 in
theorem k_row {p : Program} {l : Launch} {e : Env} {s : State} {m : MethodId} {below : List Frame} {meth : Method} {c : Code} {b L : Nat} {xs : Nat → Int32} {D : va_G} {dA : Nat → ClassId} (h0 : XS0 l s #[Value.ref b] D dA) (C0 : lw_At p s m meth c b L xs) {t : Nat} (ht : t < 512) (hL : 6 * t + 6 ≤ L) (hL2 : L ≤ 3072) {σ : XS} (h : Rel t σ) {H : Heap} {locs : List Loc} (hX : XWs D dA s σ H) (hS : va_S (xAm s) s.heap H locs) {ls : Array Slot} (hl : lv_has ls 8 [(4, .int (nI (6 * t))), (3, .ref (xB s + XA 31 0)), (2, .ref (xB s + XA 15 0)), (1, .ref (xB s + XA 0 0)), (0, .ref b)])
    (ih : ∀ (σ' : XS) (H' : Heap) (locs' : List Loc) (ls' : Array Slot), Rel (t + 1) σ' → XWs D dA s σ' H' → va_S (xAm s) s.heap H' locs' → lv_has ls' 8 [(4, .int (nI (6 * (t + 1)))), (3, .ref (xB s + XA 31 0)), (2, .ref (xB s + XA 15 0)), (1, .ref (xB s + XA 0 0)), (0, .ref b)] → W p l e room_1 s m #[Value.ref b] below meth c H' locs' (127 + 9 * (t + 1)) (14114 + 54 * (t + 1)) (lw_Z below #[Value.ref b] s) (F0 m 23 ls' [])) :
    W p l e room_1 s m #[Value.ref b] below meth c H locs (127 + 9 * t) (14114 + 54 * t) (lw_Z below #[Value.ref b] s) (F0 m 1407 ls []) := by
  obtain ⟨hx, hb, hr, hml, hown, htsL, hXs, hbl, hlocks, hgv⟩ := C0
  have hbA : ¬ xAm s b := Nat.not_le.mpr hbl
  have hW0 : s.WarmedH s.vm := State.WarmedH.refl s
  have hts := xs_w (args := #[Value.ref b]) h0 hW0
  have hK := xs_K h0 hW0
  refine lv_aload_n hx hb d_LW_law_1407 rfl (lv_at hl 3 rfl) ?_
  refine lv_aload_n hx hb d_LW_law_1408 rfl (lv_at hl 4 rfl) ?_
  refine lv_iload hx hb d_LW_law_1409 (lv_at hl 0 rfl) ?_
  refine lv_iconst (v := 1) hx hb d_LW_law_1411 (by decide) ?_
  refine lv_iadd hx hb d_LW_law_1412 ?_
  refine va_sld hx hb hXs hbl hbA hS (sc_in (k := 1) (show 6 * t + 1 < L by omega) (by omega)) d_LW_law_1413 ?_
  refine lv_aload_n hx hb d_LW_law_1414 rfl (lv_at hl 4 rfl) ?_
  refine lv_iload hx hb d_LW_law_1415 (lv_at hl 0 rfl) ?_
  refine lv_iconst (v := 2) hx hb d_LW_law_1417 (by decide) ?_
  refine lv_iadd hx hb d_LW_law_1418 ?_
  refine va_sld hx hb hXs hbl hbA hS (sc_in (k := 2) (show 6 * t + 2 < L by omega) (by omega)) d_LW_law_1419 ?_
  refine lv_aload_n hx hb d_LW_law_1420 rfl (lv_at hl 1 rfl) ?_
  refine xc_s (rest := []) (x_invS (argsL := [.ref (xB s + XA 0 0), .int (xs ((nI (6 * t)) + (1 : Int32)).toNatClampNeg), .int (xs ((nI (6 * t)) + (2 : Int32)).toNatClampNeg), .ref (xB s + XA 31 0)]) hx hb hown (hts _ w_559) (hts _ w_560) (hts _ w_33) (x_codeW (hts _ w_561)) ⟨by decide, by decide⟩ rfl rfl rfl d_LW_law_1421) (c_LW_row h0 σ (xs ((nI (6 * t)) + (1 : Int32)).toNatClampNeg) (xs ((nI (6 * t)) + (2 : Int32)).toNatClampNeg)) (xs_cwW h0 hW0 m_561) (hts _ w_33) ⟨rfl, rfl, Nat.le_of_ble_eq_true rfl, Nat.le_of_ble_eq_true rfl⟩ (hl.1.trans hml.symm) (by rw [hb]; exact d_LW_law_1421) (Nat.le_of_ble_eq_true rfl) ⟨by show _ ≤ 601024; omega, by show _ ≤ 7293034; omega⟩ hX hW0 hS (fun v σ1 H locs hM hX hS => ?_) (fun E x H1 locs1 hM => by cases hM)
  obtain ⟨ev, es⟩ := x_inl hM
  subst es
  subst ev
  have hR := r_row h ht (xs ((nI (6 * t)) + (1 : Int32)).toNatClampNeg) (xs ((nI (6 * t)) + (2 : Int32)).toNatClampNeg)
  refine lv_istore (lv' := [(5, .int ((S_LW_row σ (xs ((nI (6 * t)) + (1 : Int32)).toNatClampNeg) (xs ((nI (6 * t)) + (2 : Int32)).toNatClampNeg)).1)), (4, .int (nI (6 * t))), (3, .ref (xB s + XA 31 0)), (2, .ref (xB s + XA 15 0)), (1, .ref (xB s + XA 0 0)), (0, .ref b)]) hx hb d_LW_law_1424 hl (by decide) rfl (fun ls hl => ?_)
  refine lv_aload_n hx hb d_LW_law_1426 rfl (lv_at hl 3 rfl) ?_
  refine lv_aload_n hx hb d_LW_law_1427 rfl (lv_at hl 5 rfl) ?_
  refine lv_iload hx hb d_LW_law_1428 (lv_at hl 1 rfl) ?_
  refine lv_iconst (v := 1) hx hb d_LW_law_1430 (by decide) ?_
  refine lv_iadd hx hb d_LW_law_1431 ?_
  refine va_sld hx hb hXs hbl hbA hS (sc_in (k := 1) (show 6 * t + 1 < L by omega) (by omega)) d_LW_law_1432 ?_
  refine lv_aload_n hx hb d_LW_law_1433 rfl (lv_at hl 5 rfl) ?_
  refine lv_iload hx hb d_LW_law_1434 (lv_at hl 1 rfl) ?_
  refine lv_iconst (v := 2) hx hb d_LW_law_1436 (by decide) ?_
  refine lv_iadd hx hb d_LW_law_1437 ?_
  refine va_sld hx hb hXs hbl hbA hS (sc_in (k := 2) (show 6 * t + 2 < L by omega) (by omega)) d_LW_law_1438 ?_
  obtain ⟨cB, hcB, hoB, hkB⟩ := xw_recv (r := 15) (i := 0) hK hX (by decide) rfl rfl
  refine xc_s (rest := []) (x_invV (argsL := [.int (xs ((nI (6 * t)) + (1 : Int32)).toNatClampNeg), .int (xs ((nI (6 * t)) + (2 : Int32)).toNatClampNeg)]) hx hb hown (hts _ w_802) (hts _ w_803) (hts _ w_804) (x_code (hts _ w_805)) ⟨by decide, by decide⟩ hcB hoB hkB rfl rfl rfl d_LW_law_1439) (c_MO_row h0 (S_LW_row σ (xs ((nI (6 * t)) + (1 : Int32)).toNatClampNeg) (xs ((nI (6 * t)) + (2 : Int32)).toNatClampNeg)).2 (xs ((nI (6 * t)) + (1 : Int32)).toNatClampNeg) (xs ((nI (6 * t)) + (2 : Int32)).toNatClampNeg)) (xs_cw h0 hW0 m_805) (hts _ w_38) ⟨rfl, rfl, Nat.le_of_ble_eq_true rfl, Nat.le_of_ble_eq_true rfl⟩ (hl.1.trans hml.symm) (by rw [hb]; exact d_LW_law_1439) (Nat.le_of_ble_eq_true rfl) ⟨by show _ ≤ 601024; omega, by show _ ≤ 7293034; omega⟩ hX hW0 hS (fun v σ1 H locs hM hX hS => ?_) (fun E x H1 locs1 hM => by cases hM)
  obtain ⟨ev, es⟩ := x_inl hM
  subst es
  subst ev
  refine lv_istore (lv' := [(6, .int ((S_MO_row (S_LW_row σ (xs ((nI (6 * t)) + (1 : Int32)).toNatClampNeg) (xs ((nI (6 * t)) + (2 : Int32)).toNatClampNeg)).2 (xs ((nI (6 * t)) + (1 : Int32)).toNatClampNeg) (xs ((nI (6 * t)) + (2 : Int32)).toNatClampNeg)).1)), (5, .int ((S_LW_row σ (xs ((nI (6 * t)) + (1 : Int32)).toNatClampNeg) (xs ((nI (6 * t)) + (2 : Int32)).toNatClampNeg)).1)), (4, .int (nI (6 * t))), (3, .ref (xB s + XA 31 0)), (2, .ref (xB s + XA 15 0)), (1, .ref (xB s + XA 0 0)), (0, .ref b)]) hx hb d_LW_law_1442 hl (by decide) rfl (fun ls hl => ?_)
  refine lv_aload_n hx hb d_LW_law_1444 rfl (lv_at hl 4 rfl) ?_
  obtain ⟨cB1445, hcB1445, hoB1445, hkB1445⟩ := xw_recv (r := 15) (i := 0) hK hX (by decide) rfl rfl
  refine xc_f (rest := []) (x_invV (argsL := []) hx hb hown (hts _ w_656) (hts _ w_657) (hts _ w_658) (x_code (hts _ w_659)) ⟨by decide, by decide⟩ hcB1445 hoB1445 hkB1445 rfl rfl rfl d_LW_law_1445) (c_MO_thrown h0 (S_MO_row (S_LW_row σ (xs ((nI (6 * t)) + (1 : Int32)).toNatClampNeg) (xs ((nI (6 * t)) + (2 : Int32)).toNatClampNeg)).2 (xs ((nI (6 * t)) + (1 : Int32)).toNatClampNeg) (xs ((nI (6 * t)) + (2 : Int32)).toNatClampNeg)).2) (xs_cw h0 hW0 m_659) (hts _ w_38) ⟨rfl, rfl, Nat.le_of_ble_eq_true rfl, Nat.le_of_ble_eq_true rfl⟩ (hl.1.trans hml.symm) (by rw [hb]; exact d_LW_law_1445) (Nat.le_of_ble_eq_true rfl) ⟨by show _ ≤ 601024; omega, by show _ ≤ 7293034; omega⟩ hX ⟨hW0, xo_S hS⟩ ?_
  refine lv_iload hx hb d_LW_law_1448 (lv_at hl 1 rfl) ?_
  refine lv_icmp_eq (tgt := 1455) hx hb d_LW_law_1450 (by decide) (fun _ => ?_) (fun c => absurd hR.2.1 c)
  refine lv_iload hx hb d_LW_law_1455 (lv_at hl 1 rfl) ?_
  refine lv_if_ne (tgt := 1472) hx hb d_LW_law_1457 (by decide) (fun c0 => ?_) (fun c0 => ?_)
  · refine lv_goto (tgt := 1611) hx hb d_LW_law_1472 (by decide) ?_
    refine W.widen (k := 127 + 9 * (t + 1)) (n := 14114 + 54 * (t + 1)) (by omega) (by omega) ?_
    refine lv_iinc (v := nI (6 * (t + 1))) (lv' := [(4, .int (nI (6 * (t + 1)))), (6, .int ((S_MO_row (S_LW_row σ (xs ((nI (6 * t)) + (1 : Int32)).toNatClampNeg) (xs ((nI (6 * t)) + (2 : Int32)).toNatClampNeg)).2 (xs ((nI (6 * t)) + (1 : Int32)).toNatClampNeg) (xs ((nI (6 * t)) + (2 : Int32)).toNatClampNeg)).1)), (5, .int ((S_LW_row σ (xs ((nI (6 * t)) + (1 : Int32)).toNatClampNeg) (xs ((nI (6 * t)) + (2 : Int32)).toNatClampNeg)).1)), (3, .ref (xB s + XA 31 0)), (2, .ref (xB s + XA 15 0)), (1, .ref (xB s + XA 0 0)), (0, .ref b)]) hx hb d_LW_law_1611 hl (k := 2) rfl (by show nI (6 * t) + nI 6 = _; rw [nI_add]; exact congrArg nI (by omega)) (by decide) rfl (fun ls hl => ?_)
    refine lv_goto (tgt := 23) hx hb d_LW_law_1614 (by decide) ?_
    exact ih _ _ _ ls hR.1 hX hS (lv_sub hl [0, 3, 4, 5, 6] rfl)
  · refine lv_aload_n hx hb d_LW_law_1460 rfl (lv_at hl 3 rfl) ?_
    refine lv_iconst (v := 0) hx hb d_LW_law_1461 (by decide) ?_
    refine xw_lald (r := 31) (i := 0) hx hb hK hX (by decide) 2 rfl rfl (j := 0) (pk_in 0 1 (by decide)) d_LW_law_1462 ?_
    refine lv_iload hx hb d_LW_law_1463 (lv_at hl 0 rfl) ?_
    refine lv_i2l hx hb d_LW_law_1465 rfl ?_
    refine W.lcmp hx hb d_LW_law_1466 ?_
    refine lv_if_eq (tgt := 1472) hx hb d_LW_law_1467 (by decide) (fun _ => ?_) (fun c => absurd ((lg_cmp_eq _ _).mpr (hR.2.2 c0)) c)
    refine lv_goto (tgt := 1611) hx hb d_LW_law_1472 (by decide) ?_
    refine W.widen (k := 127 + 9 * (t + 1)) (n := 14114 + 54 * (t + 1)) (by omega) (by omega) ?_
    refine lv_iinc (v := nI (6 * (t + 1))) (lv' := [(4, .int (nI (6 * (t + 1)))), (6, .int ((S_MO_row (S_LW_row σ (xs ((nI (6 * t)) + (1 : Int32)).toNatClampNeg) (xs ((nI (6 * t)) + (2 : Int32)).toNatClampNeg)).2 (xs ((nI (6 * t)) + (1 : Int32)).toNatClampNeg) (xs ((nI (6 * t)) + (2 : Int32)).toNatClampNeg)).1)), (5, .int ((S_LW_row σ (xs ((nI (6 * t)) + (1 : Int32)).toNatClampNeg) (xs ((nI (6 * t)) + (2 : Int32)).toNatClampNeg)).1)), (3, .ref (xB s + XA 31 0)), (2, .ref (xB s + XA 15 0)), (1, .ref (xB s + XA 0 0)), (0, .ref b)]) hx hb d_LW_law_1611 hl (k := 2) rfl (by show nI (6 * t) + nI 6 = _; rw [nI_add]; exact congrArg nI (by omega)) (by decide) rfl (fun ls hl => ?_)
    refine lv_goto (tgt := 23) hx hb d_LW_law_1614 (by decide) ?_
    exact ih _ _ _ ls hR.1 hX hS (lv_sub hl [0, 3, 4, 5, 6] rfl)

set_option maxHeartbeats 8000000 in
set_option maxRecDepth 100000 in
theorem k_has {p : Program} {l : Launch} {e : Env} {s : State} {m : MethodId} {below : List Frame} {meth : Method} {c : Code} {b L : Nat} {xs : Nat → Int32} {D : va_G} {dA : Nat → ClassId} (h0 : XS0 l s #[Value.ref b] D dA) (C0 : lw_At p s m meth c b L xs) {t : Nat} (ht : t < 512) (hL : 6 * t + 6 ≤ L) (hL2 : L ≤ 3072) {σ : XS} (h : Rel t σ) {H : Heap} {locs : List Loc} (hX : XWs D dA s σ H) (hS : va_S (xAm s) s.heap H locs) {ls : Array Slot} (hl : lv_has ls 8 [(4, .int (nI (6 * t))), (3, .ref (xB s + XA 31 0)), (2, .ref (xB s + XA 15 0)), (1, .ref (xB s + XA 0 0)), (0, .ref b)])
    (ih : ∀ (σ' : XS) (H' : Heap) (locs' : List Loc) (ls' : Array Slot), Rel (t + 1) σ' → XWs D dA s σ' H' → va_S (xAm s) s.heap H' locs' → lv_has ls' 8 [(4, .int (nI (6 * (t + 1)))), (3, .ref (xB s + XA 31 0)), (2, .ref (xB s + XA 15 0)), (1, .ref (xB s + XA 0 0)), (0, .ref b)] → W p l e room_1 s m #[Value.ref b] below meth c H' locs' (127 + 9 * (t + 1)) (14114 + 54 * (t + 1)) (lw_Z below #[Value.ref b] s) (F0 m 23 ls' [])) :
    W p l e room_1 s m #[Value.ref b] below meth c H locs (127 + 9 * t) (14114 + 54 * t) (lw_Z below #[Value.ref b] s) (F0 m 1475 ls []) := by
  obtain ⟨hx, hb, hr, hml, hown, htsL, hXs, hbl, hlocks, hgv⟩ := C0
  have hbA : ¬ xAm s b := Nat.not_le.mpr hbl
  have hW0 : s.WarmedH s.vm := State.WarmedH.refl s
  have hts := xs_w (args := #[Value.ref b]) h0 hW0
  have hK := xs_K h0 hW0
  refine lv_aload_n hx hb d_LW_law_1475 rfl (lv_at hl 3 rfl) ?_
  refine lv_aload_n hx hb d_LW_law_1476 rfl (lv_at hl 4 rfl) ?_
  refine lv_iload hx hb d_LW_law_1477 (lv_at hl 0 rfl) ?_
  refine lv_iconst (v := 1) hx hb d_LW_law_1479 (by decide) ?_
  refine lv_iadd hx hb d_LW_law_1480 ?_
  refine va_sld hx hb hXs hbl hbA hS (sc_in (k := 1) (show 6 * t + 1 < L by omega) (by omega)) d_LW_law_1481 ?_
  refine lv_aload_n hx hb d_LW_law_1482 rfl (lv_at hl 4 rfl) ?_
  refine lv_iload hx hb d_LW_law_1483 (lv_at hl 0 rfl) ?_
  refine lv_iconst (v := 2) hx hb d_LW_law_1485 (by decide) ?_
  refine lv_iadd hx hb d_LW_law_1486 ?_
  refine va_sld hx hb hXs hbl hbA hS (sc_in (k := 2) (show 6 * t + 2 < L by omega) (by omega)) d_LW_law_1487 ?_
  refine lv_aload_n hx hb d_LW_law_1488 rfl (lv_at hl 4 rfl) ?_
  refine lv_iload hx hb d_LW_law_1489 (lv_at hl 0 rfl) ?_
  refine lv_iconst (v := 3) hx hb d_LW_law_1491 (by decide) ?_
  refine lv_iadd hx hb d_LW_law_1492 ?_
  refine va_sld hx hb hXs hbl hbA hS (sc_in (k := 3) (show 6 * t + 3 < L by omega) (by omega)) d_LW_law_1493 ?_
  refine lv_aload_n hx hb d_LW_law_1494 rfl (lv_at hl 1 rfl) ?_
  refine xc_s (rest := []) (x_invS (argsL := [.ref (xB s + XA 0 0), .int (xs ((nI (6 * t)) + (1 : Int32)).toNatClampNeg), .int (xs ((nI (6 * t)) + (2 : Int32)).toNatClampNeg), .int (xs ((nI (6 * t)) + (3 : Int32)).toNatClampNeg), .ref (xB s + XA 31 0)]) hx hb hown (hts _ w_575) (hts _ w_576) (hts _ w_33) (x_codeW (hts _ w_577)) ⟨by decide, by decide⟩ rfl rfl rfl d_LW_law_1495) (c_LW_has h0 σ (xs ((nI (6 * t)) + (1 : Int32)).toNatClampNeg) (xs ((nI (6 * t)) + (2 : Int32)).toNatClampNeg) (xs ((nI (6 * t)) + (3 : Int32)).toNatClampNeg) (h.xok (by omega))) (xs_cwW h0 hW0 m_577) (hts _ w_33) ⟨rfl, rfl, Nat.le_of_ble_eq_true rfl, Nat.le_of_ble_eq_true rfl⟩ (hl.1.trans hml.symm) (by rw [hb]; exact d_LW_law_1495) (Nat.le_of_ble_eq_true rfl) ⟨by show _ ≤ 601024; omega, by show _ ≤ 7293034; omega⟩ hX hW0 hS (fun v σ1 H locs hM hX hS => ?_) (fun E x H1 locs1 hM => by cases hM)
  obtain ⟨ev, es⟩ := x_inl hM
  subst es
  subst ev
  have hR := r_has h ht (xs ((nI (6 * t)) + (1 : Int32)).toNatClampNeg) (xs ((nI (6 * t)) + (2 : Int32)).toNatClampNeg) (xs ((nI (6 * t)) + (3 : Int32)).toNatClampNeg)
  refine lv_istore (lv' := [(5, .int ((S_LW_has σ (xs ((nI (6 * t)) + (1 : Int32)).toNatClampNeg) (xs ((nI (6 * t)) + (2 : Int32)).toNatClampNeg) (xs ((nI (6 * t)) + (3 : Int32)).toNatClampNeg)).1)), (4, .int (nI (6 * t))), (3, .ref (xB s + XA 31 0)), (2, .ref (xB s + XA 15 0)), (1, .ref (xB s + XA 0 0)), (0, .ref b)]) hx hb d_LW_law_1498 hl (by decide) rfl (fun ls hl => ?_)
  refine lv_aload_n hx hb d_LW_law_1500 rfl (lv_at hl 3 rfl) ?_
  refine lv_aload_n hx hb d_LW_law_1501 rfl (lv_at hl 5 rfl) ?_
  refine lv_iload hx hb d_LW_law_1502 (lv_at hl 1 rfl) ?_
  refine lv_iconst (v := 1) hx hb d_LW_law_1504 (by decide) ?_
  refine lv_iadd hx hb d_LW_law_1505 ?_
  refine va_sld hx hb hXs hbl hbA hS (sc_in (k := 1) (show 6 * t + 1 < L by omega) (by omega)) d_LW_law_1506 ?_
  refine lv_aload_n hx hb d_LW_law_1507 rfl (lv_at hl 5 rfl) ?_
  refine lv_iload hx hb d_LW_law_1508 (lv_at hl 1 rfl) ?_
  refine lv_iconst (v := 2) hx hb d_LW_law_1510 (by decide) ?_
  refine lv_iadd hx hb d_LW_law_1511 ?_
  refine va_sld hx hb hXs hbl hbA hS (sc_in (k := 2) (show 6 * t + 2 < L by omega) (by omega)) d_LW_law_1512 ?_
  refine lv_aload_n hx hb d_LW_law_1513 rfl (lv_at hl 5 rfl) ?_
  refine lv_iload hx hb d_LW_law_1514 (lv_at hl 1 rfl) ?_
  refine lv_iconst (v := 3) hx hb d_LW_law_1516 (by decide) ?_
  refine lv_iadd hx hb d_LW_law_1517 ?_
  refine va_sld hx hb hXs hbl hbA hS (sc_in (k := 3) (show 6 * t + 3 < L by omega) (by omega)) d_LW_law_1518 ?_
  obtain ⟨cB, hcB, hoB, hkB⟩ := xw_recv (r := 15) (i := 0) hK hX (by decide) rfl rfl
  refine xc_s (rest := []) (x_invV (argsL := [.int (xs ((nI (6 * t)) + (1 : Int32)).toNatClampNeg), .int (xs ((nI (6 * t)) + (2 : Int32)).toNatClampNeg), .int (xs ((nI (6 * t)) + (3 : Int32)).toNatClampNeg)]) hx hb hown (hts _ w_806) (hts _ w_807) (hts _ w_808) (x_code (hts _ w_809)) ⟨by decide, by decide⟩ hcB hoB hkB rfl rfl rfl d_LW_law_1519) (c_MO_has h0 (S_LW_has σ (xs ((nI (6 * t)) + (1 : Int32)).toNatClampNeg) (xs ((nI (6 * t)) + (2 : Int32)).toNatClampNeg) (xs ((nI (6 * t)) + (3 : Int32)).toNatClampNeg)).2 (xs ((nI (6 * t)) + (1 : Int32)).toNatClampNeg) (xs ((nI (6 * t)) + (2 : Int32)).toNatClampNeg) (xs ((nI (6 * t)) + (3 : Int32)).toNatClampNeg) (mok_kp (h.mok (by omega)) kp_has)) (xs_cw h0 hW0 m_809) (hts _ w_38) ⟨rfl, rfl, Nat.le_of_ble_eq_true rfl, Nat.le_of_ble_eq_true rfl⟩ (hl.1.trans hml.symm) (by rw [hb]; exact d_LW_law_1519) (Nat.le_of_ble_eq_true rfl) ⟨by show _ ≤ 601024; omega, by show _ ≤ 7293034; omega⟩ hX hW0 hS (fun v σ1 H locs hM hX hS => ?_) (fun E x H1 locs1 hM => by cases hM)
  obtain ⟨ev, es⟩ := x_inl hM
  subst es
  subst ev
  refine lv_istore (lv' := [(6, .int ((S_MO_has (S_LW_has σ (xs ((nI (6 * t)) + (1 : Int32)).toNatClampNeg) (xs ((nI (6 * t)) + (2 : Int32)).toNatClampNeg) (xs ((nI (6 * t)) + (3 : Int32)).toNatClampNeg)).2 (xs ((nI (6 * t)) + (1 : Int32)).toNatClampNeg) (xs ((nI (6 * t)) + (2 : Int32)).toNatClampNeg) (xs ((nI (6 * t)) + (3 : Int32)).toNatClampNeg)).1)), (5, .int ((S_LW_has σ (xs ((nI (6 * t)) + (1 : Int32)).toNatClampNeg) (xs ((nI (6 * t)) + (2 : Int32)).toNatClampNeg) (xs ((nI (6 * t)) + (3 : Int32)).toNatClampNeg)).1)), (4, .int (nI (6 * t))), (3, .ref (xB s + XA 31 0)), (2, .ref (xB s + XA 15 0)), (1, .ref (xB s + XA 0 0)), (0, .ref b)]) hx hb d_LW_law_1522 hl (by decide) rfl (fun ls hl => ?_)
  refine lv_aload_n hx hb d_LW_law_1524 rfl (lv_at hl 4 rfl) ?_
  obtain ⟨cB1525, hcB1525, hoB1525, hkB1525⟩ := xw_recv (r := 15) (i := 0) hK hX (by decide) rfl rfl
  refine xc_f (rest := []) (x_invV (argsL := []) hx hb hown (hts _ w_656) (hts _ w_657) (hts _ w_658) (x_code (hts _ w_659)) ⟨by decide, by decide⟩ hcB1525 hoB1525 hkB1525 rfl rfl rfl d_LW_law_1525) (c_MO_thrown h0 (S_MO_has (S_LW_has σ (xs ((nI (6 * t)) + (1 : Int32)).toNatClampNeg) (xs ((nI (6 * t)) + (2 : Int32)).toNatClampNeg) (xs ((nI (6 * t)) + (3 : Int32)).toNatClampNeg)).2 (xs ((nI (6 * t)) + (1 : Int32)).toNatClampNeg) (xs ((nI (6 * t)) + (2 : Int32)).toNatClampNeg) (xs ((nI (6 * t)) + (3 : Int32)).toNatClampNeg)).2) (xs_cw h0 hW0 m_659) (hts _ w_38) ⟨rfl, rfl, Nat.le_of_ble_eq_true rfl, Nat.le_of_ble_eq_true rfl⟩ (hl.1.trans hml.symm) (by rw [hb]; exact d_LW_law_1525) (Nat.le_of_ble_eq_true rfl) ⟨by show _ ≤ 601024; omega, by show _ ≤ 7293034; omega⟩ hX ⟨hW0, xo_S hS⟩ ?_
  refine lv_iload hx hb d_LW_law_1528 (lv_at hl 1 rfl) ?_
  refine lv_icmp_eq (tgt := 1535) hx hb d_LW_law_1530 (by decide) (fun _ => ?_) (fun c => absurd hR.2.1 c)
  refine lv_iload hx hb d_LW_law_1535 (lv_at hl 1 rfl) ?_
  refine lv_if_ne (tgt := 1552) hx hb d_LW_law_1537 (by decide) (fun c0 => ?_) (fun c0 => ?_)
  · refine lv_goto (tgt := 1611) hx hb d_LW_law_1552 (by decide) ?_
    refine W.widen (k := 127 + 9 * (t + 1)) (n := 14114 + 54 * (t + 1)) (by omega) (by omega) ?_
    refine lv_iinc (v := nI (6 * (t + 1))) (lv' := [(4, .int (nI (6 * (t + 1)))), (6, .int ((S_MO_has (S_LW_has σ (xs ((nI (6 * t)) + (1 : Int32)).toNatClampNeg) (xs ((nI (6 * t)) + (2 : Int32)).toNatClampNeg) (xs ((nI (6 * t)) + (3 : Int32)).toNatClampNeg)).2 (xs ((nI (6 * t)) + (1 : Int32)).toNatClampNeg) (xs ((nI (6 * t)) + (2 : Int32)).toNatClampNeg) (xs ((nI (6 * t)) + (3 : Int32)).toNatClampNeg)).1)), (5, .int ((S_LW_has σ (xs ((nI (6 * t)) + (1 : Int32)).toNatClampNeg) (xs ((nI (6 * t)) + (2 : Int32)).toNatClampNeg) (xs ((nI (6 * t)) + (3 : Int32)).toNatClampNeg)).1)), (3, .ref (xB s + XA 31 0)), (2, .ref (xB s + XA 15 0)), (1, .ref (xB s + XA 0 0)), (0, .ref b)]) hx hb d_LW_law_1611 hl (k := 2) rfl (by show nI (6 * t) + nI 6 = _; rw [nI_add]; exact congrArg nI (by omega)) (by decide) rfl (fun ls hl => ?_)
    refine lv_goto (tgt := 23) hx hb d_LW_law_1614 (by decide) ?_
    exact ih _ _ _ ls hR.1 hX hS (lv_sub hl [0, 3, 4, 5, 6] rfl)
  · refine lv_aload_n hx hb d_LW_law_1540 rfl (lv_at hl 3 rfl) ?_
    refine lv_iconst (v := 0) hx hb d_LW_law_1541 (by decide) ?_
    refine xw_lald (r := 31) (i := 0) hx hb hK hX (by decide) 2 rfl rfl (j := 0) (pk_in 0 1 (by decide)) d_LW_law_1542 ?_
    refine lv_iload hx hb d_LW_law_1543 (lv_at hl 0 rfl) ?_
    refine lv_i2l hx hb d_LW_law_1545 rfl ?_
    refine W.lcmp hx hb d_LW_law_1546 ?_
    refine lv_if_eq (tgt := 1552) hx hb d_LW_law_1547 (by decide) (fun _ => ?_) (fun c => absurd ((lg_cmp_eq _ _).mpr (hR.2.2 c0)) c)
    refine lv_goto (tgt := 1611) hx hb d_LW_law_1552 (by decide) ?_
    refine W.widen (k := 127 + 9 * (t + 1)) (n := 14114 + 54 * (t + 1)) (by omega) (by omega) ?_
    refine lv_iinc (v := nI (6 * (t + 1))) (lv' := [(4, .int (nI (6 * (t + 1)))), (6, .int ((S_MO_has (S_LW_has σ (xs ((nI (6 * t)) + (1 : Int32)).toNatClampNeg) (xs ((nI (6 * t)) + (2 : Int32)).toNatClampNeg) (xs ((nI (6 * t)) + (3 : Int32)).toNatClampNeg)).2 (xs ((nI (6 * t)) + (1 : Int32)).toNatClampNeg) (xs ((nI (6 * t)) + (2 : Int32)).toNatClampNeg) (xs ((nI (6 * t)) + (3 : Int32)).toNatClampNeg)).1)), (5, .int ((S_LW_has σ (xs ((nI (6 * t)) + (1 : Int32)).toNatClampNeg) (xs ((nI (6 * t)) + (2 : Int32)).toNatClampNeg) (xs ((nI (6 * t)) + (3 : Int32)).toNatClampNeg)).1)), (3, .ref (xB s + XA 31 0)), (2, .ref (xB s + XA 15 0)), (1, .ref (xB s + XA 0 0)), (0, .ref b)]) hx hb d_LW_law_1611 hl (k := 2) rfl (by show nI (6 * t) + nI 6 = _; rw [nI_add]; exact congrArg nI (by omega)) (by decide) rfl (fun ls hl => ?_)
    refine lv_goto (tgt := 23) hx hb d_LW_law_1614 (by decide) ?_
    exact ih _ _ _ ls hR.1 hX hS (lv_sub hl [0, 3, 4, 5, 6] rfl)

set_option maxHeartbeats 8000000 in
set_option maxRecDepth 100000 in
theorem k_stocked {p : Program} {l : Launch} {e : Env} {s : State} {m : MethodId} {below : List Frame} {meth : Method} {c : Code} {b L : Nat} {xs : Nat → Int32} {D : va_G} {dA : Nat → ClassId} (h0 : XS0 l s #[Value.ref b] D dA) (C0 : lw_At p s m meth c b L xs) {t : Nat} (ht : t < 512) (hL : 6 * t + 6 ≤ L) (hL2 : L ≤ 3072) {σ : XS} (h : Rel t σ) {H : Heap} {locs : List Loc} (hX : XWs D dA s σ H) (hS : va_S (xAm s) s.heap H locs) {ls : Array Slot} (hl : lv_has ls 8 [(4, .int (nI (6 * t))), (3, .ref (xB s + XA 31 0)), (2, .ref (xB s + XA 15 0)), (1, .ref (xB s + XA 0 0)), (0, .ref b)])
    (ih : ∀ (σ' : XS) (H' : Heap) (locs' : List Loc) (ls' : Array Slot), Rel (t + 1) σ' → XWs D dA s σ' H' → va_S (xAm s) s.heap H' locs' → lv_has ls' 8 [(4, .int (nI (6 * (t + 1)))), (3, .ref (xB s + XA 31 0)), (2, .ref (xB s + XA 15 0)), (1, .ref (xB s + XA 0 0)), (0, .ref b)] → W p l e room_1 s m #[Value.ref b] below meth c H' locs' (127 + 9 * (t + 1)) (14114 + 54 * (t + 1)) (lw_Z below #[Value.ref b] s) (F0 m 23 ls' [])) :
    W p l e room_1 s m #[Value.ref b] below meth c H locs (127 + 9 * t) (14114 + 54 * t) (lw_Z below #[Value.ref b] s) (F0 m 1555 ls []) := by
  obtain ⟨hx, hb, hr, hml, hown, htsL, hXs, hbl, hlocks, hgv⟩ := C0
  have hbA : ¬ xAm s b := Nat.not_le.mpr hbl
  have hW0 : s.WarmedH s.vm := State.WarmedH.refl s
  have hts := xs_w (args := #[Value.ref b]) h0 hW0
  have hK := xs_K h0 hW0
  refine lv_aload_n hx hb d_LW_law_1555 rfl (lv_at hl 3 rfl) ?_
  refine lv_aload_n hx hb d_LW_law_1556 rfl (lv_at hl 4 rfl) ?_
  refine lv_iload hx hb d_LW_law_1557 (lv_at hl 0 rfl) ?_
  refine lv_iconst (v := 1) hx hb d_LW_law_1559 (by decide) ?_
  refine lv_iadd hx hb d_LW_law_1560 ?_
  refine va_sld hx hb hXs hbl hbA hS (sc_in (k := 1) (show 6 * t + 1 < L by omega) (by omega)) d_LW_law_1561 ?_
  refine lv_aload_n hx hb d_LW_law_1562 rfl (lv_at hl 1 rfl) ?_
  refine xc_s (rest := []) (x_invS (argsL := [.ref (xB s + XA 0 0), .int (xs ((nI (6 * t)) + (1 : Int32)).toNatClampNeg), .ref (xB s + XA 31 0)]) hx hb hown (hts _ w_582) (hts _ w_583) (hts _ w_33) (x_codeW (hts _ w_584)) ⟨by decide, by decide⟩ rfl rfl rfl d_LW_law_1563) (c_LW_stocked h0 σ (xs ((nI (6 * t)) + (1 : Int32)).toNatClampNeg)) (xs_cwW h0 hW0 m_584) (hts _ w_33) ⟨rfl, rfl, Nat.le_of_ble_eq_true rfl, Nat.le_of_ble_eq_true rfl⟩ (hl.1.trans hml.symm) (by rw [hb]; exact d_LW_law_1563) (Nat.le_of_ble_eq_true rfl) ⟨by show _ ≤ 601024; omega, by show _ ≤ 7293034; omega⟩ hX hW0 hS (fun v σ1 H locs hM hX hS => ?_) (fun E x H1 locs1 hM => by cases hM)
  obtain ⟨ev, es⟩ := x_inl hM
  subst es
  subst ev
  have hR := r_stocked h ht (xs ((nI (6 * t)) + (1 : Int32)).toNatClampNeg)
  refine lv_istore (lv' := [(5, .int ((S_LW_stocked σ (xs ((nI (6 * t)) + (1 : Int32)).toNatClampNeg)).1)), (4, .int (nI (6 * t))), (3, .ref (xB s + XA 31 0)), (2, .ref (xB s + XA 15 0)), (1, .ref (xB s + XA 0 0)), (0, .ref b)]) hx hb d_LW_law_1566 hl (by decide) rfl (fun ls hl => ?_)
  refine lv_aload_n hx hb d_LW_law_1568 rfl (lv_at hl 3 rfl) ?_
  refine lv_aload_n hx hb d_LW_law_1569 rfl (lv_at hl 5 rfl) ?_
  refine lv_iload hx hb d_LW_law_1570 (lv_at hl 1 rfl) ?_
  refine lv_iconst (v := 1) hx hb d_LW_law_1572 (by decide) ?_
  refine lv_iadd hx hb d_LW_law_1573 ?_
  refine va_sld hx hb hXs hbl hbA hS (sc_in (k := 1) (show 6 * t + 1 < L by omega) (by omega)) d_LW_law_1574 ?_
  obtain ⟨cB, hcB, hoB, hkB⟩ := xw_recv (r := 15) (i := 0) hK hX (by decide) rfl rfl
  refine xc_s (rest := []) (x_invV (argsL := [.int (xs ((nI (6 * t)) + (1 : Int32)).toNatClampNeg)]) hx hb hown (hts _ w_810) (hts _ w_811) (hts _ w_812) (x_code (hts _ w_813)) ⟨by decide, by decide⟩ hcB hoB hkB rfl rfl rfl d_LW_law_1575) (c_MO_stocked h0 (S_LW_stocked σ (xs ((nI (6 * t)) + (1 : Int32)).toNatClampNeg)).2 (xs ((nI (6 * t)) + (1 : Int32)).toNatClampNeg)) (xs_cw h0 hW0 m_813) (hts _ w_38) ⟨rfl, rfl, Nat.le_of_ble_eq_true rfl, Nat.le_of_ble_eq_true rfl⟩ (hl.1.trans hml.symm) (by rw [hb]; exact d_LW_law_1575) (Nat.le_of_ble_eq_true rfl) ⟨by show _ ≤ 601024; omega, by show _ ≤ 7293034; omega⟩ hX hW0 hS (fun v σ1 H locs hM hX hS => ?_) (fun E x H1 locs1 hM => by cases hM)
  obtain ⟨ev, es⟩ := x_inl hM
  subst es
  subst ev
  refine lv_istore (lv' := [(6, .int ((S_MO_stocked (S_LW_stocked σ (xs ((nI (6 * t)) + (1 : Int32)).toNatClampNeg)).2 (xs ((nI (6 * t)) + (1 : Int32)).toNatClampNeg)).1)), (5, .int ((S_LW_stocked σ (xs ((nI (6 * t)) + (1 : Int32)).toNatClampNeg)).1)), (4, .int (nI (6 * t))), (3, .ref (xB s + XA 31 0)), (2, .ref (xB s + XA 15 0)), (1, .ref (xB s + XA 0 0)), (0, .ref b)]) hx hb d_LW_law_1578 hl (by decide) rfl (fun ls hl => ?_)
  refine lv_aload_n hx hb d_LW_law_1580 rfl (lv_at hl 4 rfl) ?_
  obtain ⟨cB1581, hcB1581, hoB1581, hkB1581⟩ := xw_recv (r := 15) (i := 0) hK hX (by decide) rfl rfl
  refine xc_f (rest := []) (x_invV (argsL := []) hx hb hown (hts _ w_656) (hts _ w_657) (hts _ w_658) (x_code (hts _ w_659)) ⟨by decide, by decide⟩ hcB1581 hoB1581 hkB1581 rfl rfl rfl d_LW_law_1581) (c_MO_thrown h0 (S_MO_stocked (S_LW_stocked σ (xs ((nI (6 * t)) + (1 : Int32)).toNatClampNeg)).2 (xs ((nI (6 * t)) + (1 : Int32)).toNatClampNeg)).2) (xs_cw h0 hW0 m_659) (hts _ w_38) ⟨rfl, rfl, Nat.le_of_ble_eq_true rfl, Nat.le_of_ble_eq_true rfl⟩ (hl.1.trans hml.symm) (by rw [hb]; exact d_LW_law_1581) (Nat.le_of_ble_eq_true rfl) ⟨by show _ ≤ 601024; omega, by show _ ≤ 7293034; omega⟩ hX ⟨hW0, xo_S hS⟩ ?_
  refine lv_iload hx hb d_LW_law_1584 (lv_at hl 1 rfl) ?_
  refine lv_icmp_eq (tgt := 1591) hx hb d_LW_law_1586 (by decide) (fun _ => ?_) (fun c => absurd hR.2.1 c)
  refine lv_iload hx hb d_LW_law_1591 (lv_at hl 1 rfl) ?_
  refine lv_if_ne (tgt := 1608) hx hb d_LW_law_1593 (by decide) (fun c0 => ?_) (fun c0 => ?_)
  · refine lv_goto (tgt := 1611) hx hb d_LW_law_1608 (by decide) ?_
    refine W.widen (k := 127 + 9 * (t + 1)) (n := 14114 + 54 * (t + 1)) (by omega) (by omega) ?_
    refine lv_iinc (v := nI (6 * (t + 1))) (lv' := [(4, .int (nI (6 * (t + 1)))), (6, .int ((S_MO_stocked (S_LW_stocked σ (xs ((nI (6 * t)) + (1 : Int32)).toNatClampNeg)).2 (xs ((nI (6 * t)) + (1 : Int32)).toNatClampNeg)).1)), (5, .int ((S_LW_stocked σ (xs ((nI (6 * t)) + (1 : Int32)).toNatClampNeg)).1)), (3, .ref (xB s + XA 31 0)), (2, .ref (xB s + XA 15 0)), (1, .ref (xB s + XA 0 0)), (0, .ref b)]) hx hb d_LW_law_1611 hl (k := 2) rfl (by show nI (6 * t) + nI 6 = _; rw [nI_add]; exact congrArg nI (by omega)) (by decide) rfl (fun ls hl => ?_)
    refine lv_goto (tgt := 23) hx hb d_LW_law_1614 (by decide) ?_
    exact ih _ _ _ ls hR.1 hX hS (lv_sub hl [0, 3, 4, 5, 6] rfl)
  · refine lv_aload_n hx hb d_LW_law_1596 rfl (lv_at hl 3 rfl) ?_
    refine lv_iconst (v := 0) hx hb d_LW_law_1597 (by decide) ?_
    refine xw_lald (r := 31) (i := 0) hx hb hK hX (by decide) 2 rfl rfl (j := 0) (pk_in 0 1 (by decide)) d_LW_law_1598 ?_
    refine lv_iload hx hb d_LW_law_1599 (lv_at hl 0 rfl) ?_
    refine lv_i2l hx hb d_LW_law_1601 rfl ?_
    refine W.lcmp hx hb d_LW_law_1602 ?_
    refine lv_if_eq (tgt := 1608) hx hb d_LW_law_1603 (by decide) (fun _ => ?_) (fun c => absurd ((lg_cmp_eq _ _).mpr (hR.2.2 c0)) c)
    refine lv_goto (tgt := 1611) hx hb d_LW_law_1608 (by decide) ?_
    refine W.widen (k := 127 + 9 * (t + 1)) (n := 14114 + 54 * (t + 1)) (by omega) (by omega) ?_
    refine lv_iinc (v := nI (6 * (t + 1))) (lv' := [(4, .int (nI (6 * (t + 1)))), (6, .int ((S_MO_stocked (S_LW_stocked σ (xs ((nI (6 * t)) + (1 : Int32)).toNatClampNeg)).2 (xs ((nI (6 * t)) + (1 : Int32)).toNatClampNeg)).1)), (5, .int ((S_LW_stocked σ (xs ((nI (6 * t)) + (1 : Int32)).toNatClampNeg)).1)), (3, .ref (xB s + XA 31 0)), (2, .ref (xB s + XA 15 0)), (1, .ref (xB s + XA 0 0)), (0, .ref b)]) hx hb d_LW_law_1611 hl (k := 2) rfl (by show nI (6 * t) + nI 6 = _; rw [nI_add]; exact congrArg nI (by omega)) (by decide) rfl (fun ls hl => ?_)
    refine lv_goto (tgt := 23) hx hb d_LW_law_1614 (by decide) ?_
    exact ih _ _ _ ls hR.1 hX hS (lv_sub hl [0, 3, 4, 5, 6] rfl)
