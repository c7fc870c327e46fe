set_option maxHeartbeats 8000000 in
set_option maxRecDepth 100000 in
theorem k_vehicle {p : Program} {l : Launch} {e : Env} {s : State} {m : MethodId} {below : List Frame} {meth : Method} {c : Code} {b L : Nat} {xs : Nat → Int32} {D : va_G} {dA : Nat → ClassId} (h0 : XS0 l s #[Value.ref b] D dA) (C0 : lw_At p s m meth c b L xs) {t : Nat} (ht : t < 512) (hL : 6 * t + 6 ≤ L) (hL2 : L ≤ 3072) {σ : XS} (h : Rel t σ) {H : Heap} {locs : List Loc} (hX : XWs D dA s σ H) (hS : va_S (xAm s) s.heap H locs) {ls : Array Slot} (hl : lv_has ls 8 [(4, .int (nI (6 * t))), (3, .ref (xB s + XA 31 0)), (2, .ref (xB s + XA 15 0)), (1, .ref (xB s + XA 0 0)), (0, .ref b)])
    (ih : ∀ (σ' : XS) (H' : Heap) (locs' : List Loc) (ls' : Array Slot), Rel (t + 1) σ' → XWs D dA s σ' H' → va_S (xAm s) s.heap H' locs' → lv_has ls' 8 [(4, .int (nI (6 * (t + 1)))), (3, .ref (xB s + XA 31 0)), (2, .ref (xB s + XA 15 0)), (1, .ref (xB s + XA 0 0)), (0, .ref b)] → W p l e room_1 s m #[Value.ref b] below meth c H' locs' (127 + 9 * (t + 1)) (14114 + 54 * (t + 1)) (lw_Z below #[Value.ref b] s) (F0 m 23 ls' [])) :
    W p l e room_1 s m #[Value.ref b] below meth c H locs (127 + 9 * t) (14114 + 54 * t) (lw_Z below #[Value.ref b] s) (F0 m 144 ls []) := by
  obtain ⟨hx, hb, hr, hml, hown, htsL, hXs, hbl, hlocks, hgv⟩ := C0
  have hbA : ¬ xAm s b := Nat.not_le.mpr hbl
  have hW0 : s.WarmedH s.vm := State.WarmedH.refl s
  have hts := xs_w (args := #[Value.ref b]) h0 hW0
  have hK := xs_K h0 hW0
  refine lv_aload_n hx hb d_LW_law_144 rfl (lv_at hl 3 rfl) ?_
  refine lv_aload_n hx hb d_LW_law_145 rfl (lv_at hl 4 rfl) ?_
  refine lv_iload hx hb d_LW_law_146 (lv_at hl 0 rfl) ?_
  refine lv_iconst (v := 1) hx hb d_LW_law_148 (by decide) ?_
  refine lv_iadd hx hb d_LW_law_149 ?_
  refine va_sld hx hb hXs hbl hbA hS (sc_in (k := 1) (show 6 * t + 1 < L by omega) (by omega)) d_LW_law_150 ?_
  refine lv_aload_n hx hb d_LW_law_151 rfl (lv_at hl 4 rfl) ?_
  refine lv_iload hx hb d_LW_law_152 (lv_at hl 0 rfl) ?_
  refine lv_iconst (v := 2) hx hb d_LW_law_154 (by decide) ?_
  refine lv_iadd hx hb d_LW_law_155 ?_
  refine va_sld hx hb hXs hbl hbA hS (sc_in (k := 2) (show 6 * t + 2 < L by omega) (by omega)) d_LW_law_156 ?_
  refine lv_aload_n hx hb d_LW_law_157 rfl (lv_at hl 4 rfl) ?_
  refine lv_iload hx hb d_LW_law_158 (lv_at hl 0 rfl) ?_
  refine lv_iconst (v := 3) hx hb d_LW_law_160 (by decide) ?_
  refine lv_iadd hx hb d_LW_law_161 ?_
  refine va_sld hx hb hXs hbl hbA hS (sc_in (k := 3) (show 6 * t + 3 < L by omega) (by omega)) d_LW_law_162 ?_
  refine lv_aload_n hx hb d_LW_law_163 rfl (lv_at hl 4 rfl) ?_
  refine lv_iload hx hb d_LW_law_164 (lv_at hl 0 rfl) ?_
  refine lv_iconst (v := 4) hx hb d_LW_law_166 (by decide) ?_
  refine lv_iadd hx hb d_LW_law_167 ?_
  refine va_sld hx hb hXs hbl hbA hS (sc_in (k := 4) (show 6 * t + 4 < L by omega) (by omega)) d_LW_law_168 ?_
  refine lv_aload_n hx hb d_LW_law_169 rfl (lv_at hl 1 rfl) ?_
  refine xc_s (rest := []) (x_invS (argsL := [.ref (xB s + XA 0 0), .int (xs ((nI (6 * t)) + (1 : Int32)).toNatClampNeg), .int (xs ((nI (6 * t)) + (2 : Int32)).toNatClampNeg), .int (xs ((nI (6 * t)) + (3 : Int32)).toNatClampNeg), .int (xs ((nI (6 * t)) + (4 : Int32)).toNatClampNeg), .ref (xB s + XA 31 0)]) hx hb hown (hts _ w_161) (hts _ w_162) (hts _ w_33) (x_codeW (hts _ w_163)) ⟨by decide, by decide⟩ rfl rfl rfl d_LW_law_170) (c_LW_vehicle h0 σ (xs ((nI (6 * t)) + (1 : Int32)).toNatClampNeg) (xs ((nI (6 * t)) + (2 : Int32)).toNatClampNeg) (xs ((nI (6 * t)) + (3 : Int32)).toNatClampNeg) (xs ((nI (6 * t)) + (4 : Int32)).toNatClampNeg) (h.xok (by omega))) (xs_cwW h0 hW0 m_163) (hts _ w_33) ⟨rfl, rfl, Nat.le_of_ble_eq_true rfl, Nat.le_of_ble_eq_true rfl⟩ (hl.1.trans hml.symm) (by rw [hb]; exact d_LW_law_170) (Nat.le_of_ble_eq_true rfl) ⟨by show _ ≤ 601024; omega, by show _ ≤ 7293034; omega⟩ hX hW0 hS (fun v σ1 H locs hM hX hS => ?_) (fun E x H1 locs1 hM => by cases hM)
  obtain ⟨ev, es⟩ := x_inl hM
  subst es
  subst ev
  have hR := r_vehicle h ht (xs ((nI (6 * t)) + (1 : Int32)).toNatClampNeg) (xs ((nI (6 * t)) + (2 : Int32)).toNatClampNeg) (xs ((nI (6 * t)) + (3 : Int32)).toNatClampNeg) (xs ((nI (6 * t)) + (4 : Int32)).toNatClampNeg)
  refine lv_istore (lv' := [(5, .int ((S_LW_vehicle σ (xs ((nI (6 * t)) + (1 : Int32)).toNatClampNeg) (xs ((nI (6 * t)) + (2 : Int32)).toNatClampNeg) (xs ((nI (6 * t)) + (3 : Int32)).toNatClampNeg) (xs ((nI (6 * t)) + (4 : Int32)).toNatClampNeg)).1)), (4, .int (nI (6 * t))), (3, .ref (xB s + XA 31 0)), (2, .ref (xB s + XA 15 0)), (1, .ref (xB s + XA 0 0)), (0, .ref b)]) hx hb d_LW_law_173 hl (by decide) rfl (fun ls hl => ?_)
  refine lv_aload_n hx hb d_LW_law_175 rfl (lv_at hl 3 rfl) ?_
  refine lv_aload_n hx hb d_LW_law_176 rfl (lv_at hl 5 rfl) ?_
  refine lv_iload hx hb d_LW_law_177 (lv_at hl 1 rfl) ?_
  refine lv_iconst (v := 1) hx hb d_LW_law_179 (by decide) ?_
  refine lv_iadd hx hb d_LW_law_180 ?_
  refine va_sld hx hb hXs hbl hbA hS (sc_in (k := 1) (show 6 * t + 1 < L by omega) (by omega)) d_LW_law_181 ?_
  refine lv_aload_n hx hb d_LW_law_182 rfl (lv_at hl 5 rfl) ?_
  refine lv_iload hx hb d_LW_law_183 (lv_at hl 1 rfl) ?_
  refine lv_iconst (v := 2) hx hb d_LW_law_185 (by decide) ?_
  refine lv_iadd hx hb d_LW_law_186 ?_
  refine va_sld hx hb hXs hbl hbA hS (sc_in (k := 2) (show 6 * t + 2 < L by omega) (by omega)) d_LW_law_187 ?_
  refine lv_aload_n hx hb d_LW_law_188 rfl (lv_at hl 5 rfl) ?_
  refine lv_iload hx hb d_LW_law_189 (lv_at hl 1 rfl) ?_
  refine lv_iconst (v := 3) hx hb d_LW_law_191 (by decide) ?_
  refine lv_iadd hx hb d_LW_law_192 ?_
  refine va_sld hx hb hXs hbl hbA hS (sc_in (k := 3) (show 6 * t + 3 < L by omega) (by omega)) d_LW_law_193 ?_
  refine lv_aload_n hx hb d_LW_law_194 rfl (lv_at hl 5 rfl) ?_
  refine lv_iload hx hb d_LW_law_195 (lv_at hl 1 rfl) ?_
  refine lv_iconst (v := 4) hx hb d_LW_law_197 (by decide) ?_
  refine lv_iadd hx hb d_LW_law_198 ?_
  refine va_sld hx hb hXs hbl hbA hS (sc_in (k := 4) (show 6 * t + 4 < L by omega) (by omega)) d_LW_law_199 ?_
  obtain ⟨cB, hcB, hoB, hkB⟩ := xw_recv (r := 15) (i := 0) hK hX (by decide) rfl rfl
  refine xc_s (rest := []) (x_invV (argsL := [.int (xs ((nI (6 * t)) + (1 : Int32)).toNatClampNeg), .int (xs ((nI (6 * t)) + (2 : Int32)).toNatClampNeg), .int (xs ((nI (6 * t)) + (3 : Int32)).toNatClampNeg), .int (xs ((nI (6 * t)) + (4 : Int32)).toNatClampNeg)]) hx hb hown (hts _ w_660) (hts _ w_661) (hts _ w_662) (x_code (hts _ w_663)) ⟨by decide, by decide⟩ hcB hoB hkB rfl rfl rfl d_LW_law_200) (c_MO_vehicle h0 (S_LW_vehicle σ (xs ((nI (6 * t)) + (1 : Int32)).toNatClampNeg) (xs ((nI (6 * t)) + (2 : Int32)).toNatClampNeg) (xs ((nI (6 * t)) + (3 : Int32)).toNatClampNeg) (xs ((nI (6 * t)) + (4 : Int32)).toNatClampNeg)).2 (xs ((nI (6 * t)) + (1 : Int32)).toNatClampNeg) (xs ((nI (6 * t)) + (2 : Int32)).toNatClampNeg) (xs ((nI (6 * t)) + (3 : Int32)).toNatClampNeg) (xs ((nI (6 * t)) + (4 : Int32)).toNatClampNeg) (mok_kp (h.mok (by omega)) kp_vehicle)) (xs_cw h0 hW0 m_663) (hts _ w_38) ⟨rfl, rfl, Nat.le_of_ble_eq_true rfl, Nat.le_of_ble_eq_true rfl⟩ (hl.1.trans hml.symm) (by rw [hb]; exact d_LW_law_200) (Nat.le_of_ble_eq_true rfl) ⟨by show _ ≤ 601024; omega, by show _ ≤ 7293034; omega⟩ hX hW0 hS (fun v σ1 H locs hM hX hS => ?_) (fun E x H1 locs1 hM => by cases hM)
  obtain ⟨ev, es⟩ := x_inl hM
  subst es
  subst ev
  refine lv_istore (lv' := [(6, .int ((S_MO_vehicle (S_LW_vehicle σ (xs ((nI (6 * t)) + (1 : Int32)).toNatClampNeg) (xs ((nI (6 * t)) + (2 : Int32)).toNatClampNeg) (xs ((nI (6 * t)) + (3 : Int32)).toNatClampNeg) (xs ((nI (6 * t)) + (4 : Int32)).toNatClampNeg)).2 (xs ((nI (6 * t)) + (1 : Int32)).toNatClampNeg) (xs ((nI (6 * t)) + (2 : Int32)).toNatClampNeg) (xs ((nI (6 * t)) + (3 : Int32)).toNatClampNeg) (xs ((nI (6 * t)) + (4 : Int32)).toNatClampNeg)).1)), (5, .int ((S_LW_vehicle σ (xs ((nI (6 * t)) + (1 : Int32)).toNatClampNeg) (xs ((nI (6 * t)) + (2 : Int32)).toNatClampNeg) (xs ((nI (6 * t)) + (3 : Int32)).toNatClampNeg) (xs ((nI (6 * t)) + (4 : Int32)).toNatClampNeg)).1)), (4, .int (nI (6 * t))), (3, .ref (xB s + XA 31 0)), (2, .ref (xB s + XA 15 0)), (1, .ref (xB s + XA 0 0)), (0, .ref b)]) hx hb d_LW_law_203 hl (by decide) rfl (fun ls hl => ?_)
  refine lv_aload_n hx hb d_LW_law_205 rfl (lv_at hl 4 rfl) ?_
  obtain ⟨cB206, hcB206, hoB206, hkB206⟩ := xw_recv (r := 15) (i := 0) hK hX (by decide) rfl rfl
  refine xc_f (rest := []) (x_invV (argsL := []) hx hb hown (hts _ w_656) (hts _ w_657) (hts _ w_658) (x_code (hts _ w_659)) ⟨by decide, by decide⟩ hcB206 hoB206 hkB206 rfl rfl rfl d_LW_law_206) (c_MO_thrown h0 (S_MO_vehicle (S_LW_vehicle σ (xs ((nI (6 * t)) + (1 : Int32)).toNatClampNeg) (xs ((nI (6 * t)) + (2 : Int32)).toNatClampNeg) (xs ((nI (6 * t)) + (3 : Int32)).toNatClampNeg) (xs ((nI (6 * t)) + (4 : Int32)).toNatClampNeg)).2 (xs ((nI (6 * t)) + (1 : Int32)).toNatClampNeg) (xs ((nI (6 * t)) + (2 : Int32)).toNatClampNeg) (xs ((nI (6 * t)) + (3 : Int32)).toNatClampNeg) (xs ((nI (6 * t)) + (4 : Int32)).toNatClampNeg)).2) (xs_cw h0 hW0 m_659) (hts _ w_38) ⟨rfl, rfl, Nat.le_of_ble_eq_true rfl, Nat.le_of_ble_eq_true rfl⟩ (hl.1.trans hml.symm) (by rw [hb]; exact d_LW_law_206) (Nat.le_of_ble_eq_true rfl) ⟨by show _ ≤ 601024; omega, by show _ ≤ 7293034; omega⟩ hX ⟨hW0, xo_S hS⟩ ?_
  refine lv_iload hx hb d_LW_law_209 (lv_at hl 1 rfl) ?_
  refine lv_icmp_eq (tgt := 216) hx hb d_LW_law_211 (by decide) (fun _ => ?_) (fun c => absurd hR.2.1 c)
  refine lv_iload hx hb d_LW_law_216 (lv_at hl 1 rfl) ?_
  refine lv_if_ne (tgt := 233) hx hb d_LW_law_218 (by decide) (fun c0 => ?_) (fun c0 => ?_)
  · refine lv_goto (tgt := 1611) hx hb d_LW_law_233 (by decide) ?_
    refine W.widen (k := 127 + 9 * (t + 1)) (n := 14114 + 54 * (t + 1)) (by omega) (by omega) ?_
    refine lv_iinc (v := nI (6 * (t + 1))) (lv' := [(4, .int (nI (6 * (t + 1)))), (6, .int ((S_MO_vehicle (S_LW_vehicle σ (xs ((nI (6 * t)) + (1 : Int32)).toNatClampNeg) (xs ((nI (6 * t)) + (2 : Int32)).toNatClampNeg) (xs ((nI (6 * t)) + (3 : Int32)).toNatClampNeg) (xs ((nI (6 * t)) + (4 : Int32)).toNatClampNeg)).2 (xs ((nI (6 * t)) + (1 : Int32)).toNatClampNeg) (xs ((nI (6 * t)) + (2 : Int32)).toNatClampNeg) (xs ((nI (6 * t)) + (3 : Int32)).toNatClampNeg) (xs ((nI (6 * t)) + (4 : Int32)).toNatClampNeg)).1)), (5, .int ((S_LW_vehicle σ (xs ((nI (6 * t)) + (1 : Int32)).toNatClampNeg) (xs ((nI (6 * t)) + (2 : Int32)).toNatClampNeg) (xs ((nI (6 * t)) + (3 : Int32)).toNatClampNeg) (xs ((nI (6 * t)) + (4 : Int32)).toNatClampNeg)).1)), (3, .ref (xB s + XA 31 0)), (2, .ref (xB s + XA 15 0)), (1, .ref (xB s + XA 0 0)), (0, .ref b)]) hx hb d_LW_law_1611 hl (k := 2) rfl (by show nI (6 * t) + nI 6 = _; rw [nI_add]; exact congrArg nI (by omega)) (by decide) rfl (fun ls hl => ?_)
    refine lv_goto (tgt := 23) hx hb d_LW_law_1614 (by decide) ?_
    exact ih _ _ _ ls hR.1 hX hS (lv_sub hl [0, 3, 4, 5, 6] rfl)
  · refine lv_aload_n hx hb d_LW_law_221 rfl (lv_at hl 3 rfl) ?_
    refine lv_iconst (v := 0) hx hb d_LW_law_222 (by decide) ?_
    refine xw_lald (r := 31) (i := 0) hx hb hK hX (by decide) 2 rfl rfl (j := 0) (pk_in 0 1 (by decide)) d_LW_law_223 ?_
    refine lv_iload hx hb d_LW_law_224 (lv_at hl 0 rfl) ?_
    refine lv_i2l hx hb d_LW_law_226 rfl ?_
    refine W.lcmp hx hb d_LW_law_227 ?_
    refine lv_if_eq (tgt := 233) hx hb d_LW_law_228 (by decide) (fun _ => ?_) (fun c => absurd ((lg_cmp_eq _ _).mpr (hR.2.2 c0)) c)
    refine lv_goto (tgt := 1611) hx hb d_LW_law_233 (by decide) ?_
    refine W.widen (k := 127 + 9 * (t + 1)) (n := 14114 + 54 * (t + 1)) (by omega) (by omega) ?_
    refine lv_iinc (v := nI (6 * (t + 1))) (lv' := [(4, .int (nI (6 * (t + 1)))), (6, .int ((S_MO_vehicle (S_LW_vehicle σ (xs ((nI (6 * t)) + (1 : Int32)).toNatClampNeg) (xs ((nI (6 * t)) + (2 : Int32)).toNatClampNeg) (xs ((nI (6 * t)) + (3 : Int32)).toNatClampNeg) (xs ((nI (6 * t)) + (4 : Int32)).toNatClampNeg)).2 (xs ((nI (6 * t)) + (1 : Int32)).toNatClampNeg) (xs ((nI (6 * t)) + (2 : Int32)).toNatClampNeg) (xs ((nI (6 * t)) + (3 : Int32)).toNatClampNeg) (xs ((nI (6 * t)) + (4 : Int32)).toNatClampNeg)).1)), (5, .int ((S_LW_vehicle σ (xs ((nI (6 * t)) + (1 : Int32)).toNatClampNeg) (xs ((nI (6 * t)) + (2 : Int32)).toNatClampNeg) (xs ((nI (6 * t)) + (3 : Int32)).toNatClampNeg) (xs ((nI (6 * t)) + (4 : Int32)).toNatClampNeg)).1)), (3, .ref (xB s + XA 31 0)), (2, .ref (xB s + XA 15 0)), (1, .ref (xB s + XA 0 0)), (0, .ref b)]) hx hb d_LW_law_1611 hl (k := 2) rfl (by show nI (6 * t) + nI 6 = _; rw [nI_add]; exact congrArg nI (by omega)) (by decide) rfl (fun ls hl => ?_)
    refine lv_goto (tgt := 23) hx hb d_LW_law_1614 (by decide) ?_
    exact ih _ _ _ ls hR.1 hX hS (lv_sub hl [0, 3, 4, 5, 6] rfl)

set_option maxHeartbeats 8000000 in
set_option maxRecDepth 100000 in
theorem k_limits {p : Program} {l : Launch} {e : Env} {s : State} {m : MethodId} {below : List Frame} {meth : Method} {c : Code} {b L : Nat} {xs : Nat → Int32} {D : va_G} {dA : Nat → ClassId} (h0 : XS0 l s #[Value.ref b] D dA) (C0 : lw_At p s m meth c b L xs) {t : Nat} (ht : t < 512) (hL : 6 * t + 6 ≤ L) (hL2 : L ≤ 3072) {σ : XS} (h : Rel t σ) {H : Heap} {locs : List Loc} (hX : XWs D dA s σ H) (hS : va_S (xAm s) s.heap H locs) {ls : Array Slot} (hl : lv_has ls 8 [(4, .int (nI (6 * t))), (3, .ref (xB s + XA 31 0)), (2, .ref (xB s + XA 15 0)), (1, .ref (xB s + XA 0 0)), (0, .ref b)])
    (ih : ∀ (σ' : XS) (H' : Heap) (locs' : List Loc) (ls' : Array Slot), Rel (t + 1) σ' → XWs D dA s σ' H' → va_S (xAm s) s.heap H' locs' → lv_has ls' 8 [(4, .int (nI (6 * (t + 1)))), (3, .ref (xB s + XA 31 0)), (2, .ref (xB s + XA 15 0)), (1, .ref (xB s + XA 0 0)), (0, .ref b)] → W p l e room_1 s m #[Value.ref b] below meth c H' locs' (127 + 9 * (t + 1)) (14114 + 54 * (t + 1)) (lw_Z below #[Value.ref b] s) (F0 m 23 ls' [])) :
    W p l e room_1 s m #[Value.ref b] below meth c H locs (127 + 9 * t) (14114 + 54 * t) (lw_Z below #[Value.ref b] s) (F0 m 236 ls []) := by
  obtain ⟨hx, hb, hr, hml, hown, htsL, hXs, hbl, hlocks, hgv⟩ := C0
  have hbA : ¬ xAm s b := Nat.not_le.mpr hbl
  have hW0 : s.WarmedH s.vm := State.WarmedH.refl s
  have hts := xs_w (args := #[Value.ref b]) h0 hW0
  have hK := xs_K h0 hW0
  refine lv_aload_n hx hb d_LW_law_236 rfl (lv_at hl 3 rfl) ?_
  refine lv_aload_n hx hb d_LW_law_237 rfl (lv_at hl 4 rfl) ?_
  refine lv_iload hx hb d_LW_law_238 (lv_at hl 0 rfl) ?_
  refine lv_iconst (v := 1) hx hb d_LW_law_240 (by decide) ?_
  refine lv_iadd hx hb d_LW_law_241 ?_
  refine va_sld hx hb hXs hbl hbA hS (sc_in (k := 1) (show 6 * t + 1 < L by omega) (by omega)) d_LW_law_242 ?_
  refine lv_aload_n hx hb d_LW_law_243 rfl (lv_at hl 4 rfl) ?_
  refine lv_iload hx hb d_LW_law_244 (lv_at hl 0 rfl) ?_
  refine lv_iconst (v := 2) hx hb d_LW_law_246 (by decide) ?_
  refine lv_iadd hx hb d_LW_law_247 ?_
  refine va_sld hx hb hXs hbl hbA hS (sc_in (k := 2) (show 6 * t + 2 < L by omega) (by omega)) d_LW_law_248 ?_
  refine lv_aload_n hx hb d_LW_law_249 rfl (lv_at hl 4 rfl) ?_
  refine lv_iload hx hb d_LW_law_250 (lv_at hl 0 rfl) ?_
  refine lv_iconst (v := 3) hx hb d_LW_law_252 (by decide) ?_
  refine lv_iadd hx hb d_LW_law_253 ?_
  refine va_sld hx hb hXs hbl hbA hS (sc_in (k := 3) (show 6 * t + 3 < L by omega) (by omega)) d_LW_law_254 ?_
  refine xc_s (rest := []) (x_invS (argsL := [.ref (xB s + XA 0 0), .int (xs ((nI (6 * t)) + (1 : Int32)).toNatClampNeg), .int (xs ((nI (6 * t)) + (2 : Int32)).toNatClampNeg), .int (xs ((nI (6 * t)) + (3 : Int32)).toNatClampNeg)]) hx hb hown (hts _ w_283) (hts _ w_284) (hts _ w_33) (x_codeW (hts _ w_285)) ⟨by decide, by decide⟩ rfl rfl rfl d_LW_law_255) (c_LW_limits h0 σ (xs ((nI (6 * t)) + (1 : Int32)).toNatClampNeg) (xs ((nI (6 * t)) + (2 : Int32)).toNatClampNeg) (xs ((nI (6 * t)) + (3 : Int32)).toNatClampNeg) (h.xok (by omega))) (xs_cwW h0 hW0 m_285) (hts _ w_33) ⟨rfl, rfl, Nat.le_of_ble_eq_true rfl, Nat.le_of_ble_eq_true rfl⟩ (hl.1.trans hml.symm) (by rw [hb]; exact d_LW_law_255) (Nat.le_of_ble_eq_true rfl) ⟨by show _ ≤ 601024; omega, by show _ ≤ 7293034; omega⟩ hX hW0 hS (fun v σ1 H locs hM hX hS => ?_) (fun E x H1 locs1 hM => by cases hM)
  obtain ⟨ev, es⟩ := x_inl hM
  subst es
  subst ev
  have hR := r_limits h ht (xs ((nI (6 * t)) + (1 : Int32)).toNatClampNeg) (xs ((nI (6 * t)) + (2 : Int32)).toNatClampNeg) (xs ((nI (6 * t)) + (3 : Int32)).toNatClampNeg)
  refine lv_istore (lv' := [(5, .int ((S_LW_limits σ (xs ((nI (6 * t)) + (1 : Int32)).toNatClampNeg) (xs ((nI (6 * t)) + (2 : Int32)).toNatClampNeg) (xs ((nI (6 * t)) + (3 : Int32)).toNatClampNeg)).1)), (4, .int (nI (6 * t))), (3, .ref (xB s + XA 31 0)), (2, .ref (xB s + XA 15 0)), (1, .ref (xB s + XA 0 0)), (0, .ref b)]) hx hb d_LW_law_258 hl (by decide) rfl (fun ls hl => ?_)
  refine lv_aload_n hx hb d_LW_law_260 rfl (lv_at hl 3 rfl) ?_
  refine lv_aload_n hx hb d_LW_law_261 rfl (lv_at hl 5 rfl) ?_
  refine lv_iload hx hb d_LW_law_262 (lv_at hl 1 rfl) ?_
  refine lv_iconst (v := 1) hx hb d_LW_law_264 (by decide) ?_
  refine lv_iadd hx hb d_LW_law_265 ?_
  refine va_sld hx hb hXs hbl hbA hS (sc_in (k := 1) (show 6 * t + 1 < L by omega) (by omega)) d_LW_law_266 ?_
  refine lv_aload_n hx hb d_LW_law_267 rfl (lv_at hl 5 rfl) ?_
  refine lv_iload hx hb d_LW_law_268 (lv_at hl 1 rfl) ?_
  refine lv_iconst (v := 2) hx hb d_LW_law_270 (by decide) ?_
  refine lv_iadd hx hb d_LW_law_271 ?_
  refine va_sld hx hb hXs hbl hbA hS (sc_in (k := 2) (show 6 * t + 2 < L by omega) (by omega)) d_LW_law_272 ?_
  refine lv_aload_n hx hb d_LW_law_273 rfl (lv_at hl 5 rfl) ?_
  refine lv_iload hx hb d_LW_law_274 (lv_at hl 1 rfl) ?_
  refine lv_iconst (v := 3) hx hb d_LW_law_276 (by decide) ?_
  refine lv_iadd hx hb d_LW_law_277 ?_
  refine va_sld hx hb hXs hbl hbA hS (sc_in (k := 3) (show 6 * t + 3 < L by omega) (by omega)) d_LW_law_278 ?_
  obtain ⟨cB, hcB, hoB, hkB⟩ := xw_recv (r := 15) (i := 0) hK hX (by decide) rfl rfl
  refine xc_s (rest := []) (x_invV (argsL := [.int (xs ((nI (6 * t)) + (1 : Int32)).toNatClampNeg), .int (xs ((nI (6 * t)) + (2 : Int32)).toNatClampNeg), .int (xs ((nI (6 * t)) + (3 : Int32)).toNatClampNeg)]) hx hb hown (hts _ w_675) (hts _ w_676) (hts _ w_677) (x_code (hts _ w_678)) ⟨by decide, by decide⟩ hcB hoB hkB rfl rfl rfl d_LW_law_279) (c_MO_limits h0 (S_LW_limits σ (xs ((nI (6 * t)) + (1 : Int32)).toNatClampNeg) (xs ((nI (6 * t)) + (2 : Int32)).toNatClampNeg) (xs ((nI (6 * t)) + (3 : Int32)).toNatClampNeg)).2 (xs ((nI (6 * t)) + (1 : Int32)).toNatClampNeg) (xs ((nI (6 * t)) + (2 : Int32)).toNatClampNeg) (xs ((nI (6 * t)) + (3 : Int32)).toNatClampNeg) (mok_kp (h.mok (by omega)) kp_limits)) (xs_cw h0 hW0 m_678) (hts _ w_38) ⟨rfl, rfl, Nat.le_of_ble_eq_true rfl, Nat.le_of_ble_eq_true rfl⟩ (hl.1.trans hml.symm) (by rw [hb]; exact d_LW_law_279) (Nat.le_of_ble_eq_true rfl) ⟨by show _ ≤ 601024; omega, by show _ ≤ 7293034; omega⟩ hX hW0 hS (fun v σ1 H locs hM hX hS => ?_) (fun E x H1 locs1 hM => by cases hM)
  obtain ⟨ev, es⟩ := x_inl hM
  subst es
  refine lv_aload_n hx hb d_LW_law_282 rfl (lv_at hl 3 rfl) ?_
  obtain ⟨cB283, hcB283, hoB283, hkB283⟩ := xw_recv (r := 15) (i := 0) hK hX (by decide) rfl rfl
  refine xc_f (rest := []) (x_invV (argsL := []) hx hb hown (hts _ w_656) (hts _ w_657) (hts _ w_658) (x_code (hts _ w_659)) ⟨by decide, by decide⟩ hcB283 hoB283 hkB283 rfl rfl rfl d_LW_law_283) (c_MO_thrown h0 (S_MO_limits (S_LW_limits σ (xs ((nI (6 * t)) + (1 : Int32)).toNatClampNeg) (xs ((nI (6 * t)) + (2 : Int32)).toNatClampNeg) (xs ((nI (6 * t)) + (3 : Int32)).toNatClampNeg)).2 (xs ((nI (6 * t)) + (1 : Int32)).toNatClampNeg) (xs ((nI (6 * t)) + (2 : Int32)).toNatClampNeg) (xs ((nI (6 * t)) + (3 : Int32)).toNatClampNeg)).2) (xs_cw h0 hW0 m_659) (hts _ w_38) ⟨rfl, rfl, Nat.le_of_ble_eq_true rfl, Nat.le_of_ble_eq_true rfl⟩ (hl.1.trans hml.symm) (by rw [hb]; exact d_LW_law_283) (Nat.le_of_ble_eq_true rfl) ⟨by show _ ≤ 601024; omega, by show _ ≤ 7293034; omega⟩ hX ⟨hW0, xo_S hS⟩ ?_
  refine lv_iload hx hb d_LW_law_286 (lv_at hl 0 rfl) ?_
  refine lv_icmp_eq (tgt := 293) hx hb d_LW_law_288 (by decide) (fun _ => ?_) (fun c => absurd hR.2 c)
  refine lv_goto (tgt := 1611) hx hb d_LW_law_293 (by decide) ?_
  refine W.widen (k := 127 + 9 * (t + 1)) (n := 14114 + 54 * (t + 1)) (by omega) (by omega) ?_
  refine lv_iinc (v := nI (6 * (t + 1))) (lv' := [(4, .int (nI (6 * (t + 1)))), (5, .int ((S_LW_limits σ (xs ((nI (6 * t)) + (1 : Int32)).toNatClampNeg) (xs ((nI (6 * t)) + (2 : Int32)).toNatClampNeg) (xs ((nI (6 * t)) + (3 : Int32)).toNatClampNeg)).1)), (3, .ref (xB s + XA 31 0)), (2, .ref (xB s + XA 15 0)), (1, .ref (xB s + XA 0 0)), (0, .ref b)]) hx hb d_LW_law_1611 hl (k := 1) rfl (by show nI (6 * t) + nI 6 = _; rw [nI_add]; exact congrArg nI (by omega)) (by decide) rfl (fun ls hl => ?_)
  refine lv_goto (tgt := 23) hx hb d_LW_law_1614 (by decide) ?_
  exact ih _ _ _ ls hR.1 hX hS (lv_sub hl [0, 2, 3, 4, 5] rfl)

set_option maxHeartbeats 8000000 in
set_option maxRecDepth 100000 in
theorem k_place {p : Program} {l : Launch} {e : Env} {s : State} {m : MethodId} {below : List Frame} {meth : Method} {c : Code} {b L : Nat} {xs : Nat → Int32} {D : va_G} {dA : Nat → ClassId} (h0 : XS0 l s #[Value.ref b] D dA) (C0 : lw_At p s m meth c b L xs) {t : Nat} (ht : t < 512) (hL : 6 * t + 6 ≤ L) (hL2 : L ≤ 3072) {σ : XS} (h : Rel t σ) {H : Heap} {locs : List Loc} (hX : XWs D dA s σ H) (hS : va_S (xAm s) s.heap H locs) {ls : Array Slot} (hl : lv_has ls 8 [(4, .int (nI (6 * t))), (3, .ref (xB s + XA 31 0)), (2, .ref (xB s + XA 15 0)), (1, .ref (xB s + XA 0 0)), (0, .ref b)])
    (ih : ∀ (σ' : XS) (H' : Heap) (locs' : List Loc) (ls' : Array Slot), Rel (t + 1) σ' → XWs D dA s σ' H' → va_S (xAm s) s.heap H' locs' → lv_has ls' 8 [(4, .int (nI (6 * (t + 1)))), (3, .ref (xB s + XA 31 0)), (2, .ref (xB s + XA 15 0)), (1, .ref (xB s + XA 0 0)), (0, .ref b)] → W p l e room_1 s m #[Value.ref b] below meth c H' locs' (127 + 9 * (t + 1)) (14114 + 54 * (t + 1)) (lw_Z below #[Value.ref b] s) (F0 m 23 ls' [])) :
    W p l e room_1 s m #[Value.ref b] below meth c H locs (127 + 9 * t) (14114 + 54 * t) (lw_Z below #[Value.ref b] s) (F0 m 296 ls []) := by
  obtain ⟨hx, hb, hr, hml, hown, htsL, hXs, hbl, hlocks, hgv⟩ := C0
  have hbA : ¬ xAm s b := Nat.not_le.mpr hbl
  have hW0 : s.WarmedH s.vm := State.WarmedH.refl s
  have hts := xs_w (args := #[Value.ref b]) h0 hW0
  have hK := xs_K h0 hW0
  refine lv_aload_n hx hb d_LW_law_296 rfl (lv_at hl 3 rfl) ?_
  refine lv_aload_n hx hb d_LW_law_297 rfl (lv_at hl 4 rfl) ?_
  refine lv_iload hx hb d_LW_law_298 (lv_at hl 0 rfl) ?_
  refine lv_iconst (v := 1) hx hb d_LW_law_300 (by decide) ?_
  refine lv_iadd hx hb d_LW_law_301 ?_
  refine va_sld hx hb hXs hbl hbA hS (sc_in (k := 1) (show 6 * t + 1 < L by omega) (by omega)) d_LW_law_302 ?_
  refine lv_aload_n hx hb d_LW_law_303 rfl (lv_at hl 4 rfl) ?_
  refine lv_iload hx hb d_LW_law_304 (lv_at hl 0 rfl) ?_
  refine lv_iconst (v := 2) hx hb d_LW_law_306 (by decide) ?_
  refine lv_iadd hx hb d_LW_law_307 ?_
  refine va_sld hx hb hXs hbl hbA hS (sc_in (k := 2) (show 6 * t + 2 < L by omega) (by omega)) d_LW_law_308 ?_
  refine lv_aload_n hx hb d_LW_law_309 rfl (lv_at hl 4 rfl) ?_
  refine lv_iload hx hb d_LW_law_310 (lv_at hl 0 rfl) ?_
  refine lv_iconst (v := 3) hx hb d_LW_law_312 (by decide) ?_
  refine lv_iadd hx hb d_LW_law_313 ?_
  refine va_sld hx hb hXs hbl hbA hS (sc_in (k := 3) (show 6 * t + 3 < L by omega) (by omega)) d_LW_law_314 ?_
  refine xc_s (rest := []) (x_invS (argsL := [.ref (xB s + XA 0 0), .int (xs ((nI (6 * t)) + (1 : Int32)).toNatClampNeg), .int (xs ((nI (6 * t)) + (2 : Int32)).toNatClampNeg), .int (xs ((nI (6 * t)) + (3 : Int32)).toNatClampNeg)]) hx hb hown (hts _ w_295) (hts _ w_296) (hts _ w_33) (x_codeW (hts _ w_297)) ⟨by decide, by decide⟩ rfl rfl rfl d_LW_law_315) (c_LW_place h0 σ (xs ((nI (6 * t)) + (1 : Int32)).toNatClampNeg) (xs ((nI (6 * t)) + (2 : Int32)).toNatClampNeg) (xs ((nI (6 * t)) + (3 : Int32)).toNatClampNeg) (h.xok (by omega))) (xs_cwW h0 hW0 m_297) (hts _ w_33) ⟨rfl, rfl, Nat.le_of_ble_eq_true rfl, Nat.le_of_ble_eq_true rfl⟩ (hl.1.trans hml.symm) (by rw [hb]; exact d_LW_law_315) (Nat.le_of_ble_eq_true rfl) ⟨by show _ ≤ 601024; omega, by show _ ≤ 7293034; omega⟩ hX hW0 hS (fun v σ1 H locs hM hX hS => ?_) (fun E x H1 locs1 hM => by cases hM)
  obtain ⟨ev, es⟩ := x_inl hM
  subst es
  subst ev
  have hR := r_place h ht (xs ((nI (6 * t)) + (1 : Int32)).toNatClampNeg) (xs ((nI (6 * t)) + (2 : Int32)).toNatClampNeg) (xs ((nI (6 * t)) + (3 : Int32)).toNatClampNeg)
  refine lv_istore (lv' := [(5, .int ((S_LW_place σ (xs ((nI (6 * t)) + (1 : Int32)).toNatClampNeg) (xs ((nI (6 * t)) + (2 : Int32)).toNatClampNeg) (xs ((nI (6 * t)) + (3 : Int32)).toNatClampNeg)).1)), (4, .int (nI (6 * t))), (3, .ref (xB s + XA 31 0)), (2, .ref (xB s + XA 15 0)), (1, .ref (xB s + XA 0 0)), (0, .ref b)]) hx hb d_LW_law_318 hl (by decide) rfl (fun ls hl => ?_)
  refine lv_aload_n hx hb d_LW_law_320 rfl (lv_at hl 3 rfl) ?_
  refine lv_aload_n hx hb d_LW_law_321 rfl (lv_at hl 5 rfl) ?_
  refine lv_iload hx hb d_LW_law_322 (lv_at hl 1 rfl) ?_
  refine lv_iconst (v := 1) hx hb d_LW_law_324 (by decide) ?_
  refine lv_iadd hx hb d_LW_law_325 ?_
  refine va_sld hx hb hXs hbl hbA hS (sc_in (k := 1) (show 6 * t + 1 < L by omega) (by omega)) d_LW_law_326 ?_
  refine lv_aload_n hx hb d_LW_law_327 rfl (lv_at hl 5 rfl) ?_
  refine lv_iload hx hb d_LW_law_328 (lv_at hl 1 rfl) ?_
  refine lv_iconst (v := 2) hx hb d_LW_law_330 (by decide) ?_
  refine lv_iadd hx hb d_LW_law_331 ?_
  refine va_sld hx hb hXs hbl hbA hS (sc_in (k := 2) (show 6 * t + 2 < L by omega) (by omega)) d_LW_law_332 ?_
  refine lv_aload_n hx hb d_LW_law_333 rfl (lv_at hl 5 rfl) ?_
  refine lv_iload hx hb d_LW_law_334 (lv_at hl 1 rfl) ?_
  refine lv_iconst (v := 3) hx hb d_LW_law_336 (by decide) ?_
  refine lv_iadd hx hb d_LW_law_337 ?_
  refine va_sld hx hb hXs hbl hbA hS (sc_in (k := 3) (show 6 * t + 3 < L by omega) (by omega)) d_LW_law_338 ?_
  obtain ⟨cB, hcB, hoB, hkB⟩ := xw_recv (r := 15) (i := 0) hK hX (by decide) rfl rfl
  refine xc_s (rest := []) (x_invV (argsL := [.int (xs ((nI (6 * t)) + (1 : Int32)).toNatClampNeg), .int (xs ((nI (6 * t)) + (2 : Int32)).toNatClampNeg), .int (xs ((nI (6 * t)) + (3 : Int32)).toNatClampNeg)]) hx hb hown (hts _ w_683) (hts _ w_684) (hts _ w_685) (x_code (hts _ w_686)) ⟨by decide, by decide⟩ hcB hoB hkB rfl rfl rfl d_LW_law_339) (c_MO_place h0 (S_LW_place σ (xs ((nI (6 * t)) + (1 : Int32)).toNatClampNeg) (xs ((nI (6 * t)) + (2 : Int32)).toNatClampNeg) (xs ((nI (6 * t)) + (3 : Int32)).toNatClampNeg)).2 (xs ((nI (6 * t)) + (1 : Int32)).toNatClampNeg) (xs ((nI (6 * t)) + (2 : Int32)).toNatClampNeg) (xs ((nI (6 * t)) + (3 : Int32)).toNatClampNeg) (mok_kp (h.mok (by omega)) kp_place)) (xs_cw h0 hW0 m_686) (hts _ w_38) ⟨rfl, rfl, Nat.le_of_ble_eq_true rfl, Nat.le_of_ble_eq_true rfl⟩ (hl.1.trans hml.symm) (by rw [hb]; exact d_LW_law_339) (Nat.le_of_ble_eq_true rfl) ⟨by show _ ≤ 601024; omega, by show _ ≤ 7293034; omega⟩ hX hW0 hS (fun v σ1 H locs hM hX hS => ?_) (fun E x H1 locs1 hM => by cases hM)
  obtain ⟨ev, es⟩ := x_inl hM
  subst es
  refine lv_aload_n hx hb d_LW_law_342 rfl (lv_at hl 3 rfl) ?_
  obtain ⟨cB343, hcB343, hoB343, hkB343⟩ := xw_recv (r := 15) (i := 0) hK hX (by decide) rfl rfl
  refine xc_f (rest := []) (x_invV (argsL := []) hx hb hown (hts _ w_656) (hts _ w_657) (hts _ w_658) (x_code (hts _ w_659)) ⟨by decide, by decide⟩ hcB343 hoB343 hkB343 rfl rfl rfl d_LW_law_343) (c_MO_thrown h0 (S_MO_place (S_LW_place σ (xs ((nI (6 * t)) + (1 : Int32)).toNatClampNeg) (xs ((nI (6 * t)) + (2 : Int32)).toNatClampNeg) (xs ((nI (6 * t)) + (3 : Int32)).toNatClampNeg)).2 (xs ((nI (6 * t)) + (1 : Int32)).toNatClampNeg) (xs ((nI (6 * t)) + (2 : Int32)).toNatClampNeg) (xs ((nI (6 * t)) + (3 : Int32)).toNatClampNeg)).2) (xs_cw h0 hW0 m_659) (hts _ w_38) ⟨rfl, rfl, Nat.le_of_ble_eq_true rfl, Nat.le_of_ble_eq_true rfl⟩ (hl.1.trans hml.symm) (by rw [hb]; exact d_LW_law_343) (Nat.le_of_ble_eq_true rfl) ⟨by show _ ≤ 601024; omega, by show _ ≤ 7293034; omega⟩ hX ⟨hW0, xo_S hS⟩ ?_
  refine lv_iload hx hb d_LW_law_346 (lv_at hl 0 rfl) ?_
  refine lv_icmp_eq (tgt := 353) hx hb d_LW_law_348 (by decide) (fun _ => ?_) (fun c => absurd hR.2 c)
  refine lv_goto (tgt := 1611) hx hb d_LW_law_353 (by decide) ?_
  refine W.widen (k := 127 + 9 * (t + 1)) (n := 14114 + 54 * (t + 1)) (by omega) (by omega) ?_
  refine lv_iinc (v := nI (6 * (t + 1))) (lv' := [(4, .int (nI (6 * (t + 1)))), (5, .int ((S_LW_place σ (xs ((nI (6 * t)) + (1 : Int32)).toNatClampNeg) (xs ((nI (6 * t)) + (2 : Int32)).toNatClampNeg) (xs ((nI (6 * t)) + (3 : Int32)).toNatClampNeg)).1)), (3, .ref (xB s + XA 31 0)), (2, .ref (xB s + XA 15 0)), (1, .ref (xB s + XA 0 0)), (0, .ref b)]) hx hb d_LW_law_1611 hl (k := 1) rfl (by show nI (6 * t) + nI 6 = _; rw [nI_add]; exact congrArg nI (by omega)) (by decide) rfl (fun ls hl => ?_)
  refine lv_goto (tgt := 23) hx hb d_LW_law_1614 (by decide) ?_
  exact ih _ _ _ ls hR.1 hX hS (lv_sub hl [0, 2, 3, 4, 5] rfl)

set_option maxHeartbeats 8000000 in
set_option maxRecDepth 100000 in
theorem k_item {p : Program} {l : Launch} {e : Env} {s : State} {m : MethodId} {below : List Frame} {meth : Method} {c : Code} {b L : Nat} {xs : Nat → Int32} {D : va_G} {dA : Nat → ClassId} (h0 : XS0 l s #[Value.ref b] D dA) (C0 : lw_At p s m meth c b L xs) {t : Nat} (ht : t < 512) (hL : 6 * t + 6 ≤ L) (hL2 : L ≤ 3072) {σ : XS} (h : Rel t σ) {H : Heap} {locs : List Loc} (hX : XWs D dA s σ H) (hS : va_S (xAm s) s.heap H locs) {ls : Array Slot} (hl : lv_has ls 8 [(4, .int (nI (6 * t))), (3, .ref (xB s + XA 31 0)), (2, .ref (xB s + XA 15 0)), (1, .ref (xB s + XA 0 0)), (0, .ref b)])
    (ih : ∀ (σ' : XS) (H' : Heap) (locs' : List Loc) (ls' : Array Slot), Rel (t + 1) σ' → XWs D dA s σ' H' → va_S (xAm s) s.heap H' locs' → lv_has ls' 8 [(4, .int (nI (6 * (t + 1)))), (3, .ref (xB s + XA 31 0)), (2, .ref (xB s + XA 15 0)), (1, .ref (xB s + XA 0 0)), (0, .ref b)] → W p l e room_1 s m #[Value.ref b] below meth c H' locs' (127 + 9 * (t + 1)) (14114 + 54 * (t + 1)) (lw_Z below #[Value.ref b] s) (F0 m 23 ls' [])) :
    W p l e room_1 s m #[Value.ref b] below meth c H locs (127 + 9 * t) (14114 + 54 * t) (lw_Z below #[Value.ref b] s) (F0 m 356 ls []) := by
  obtain ⟨hx, hb, hr, hml, hown, htsL, hXs, hbl, hlocks, hgv⟩ := C0
  have hbA : ¬ xAm s b := Nat.not_le.mpr hbl
  have hW0 : s.WarmedH s.vm := State.WarmedH.refl s
  have hts := xs_w (args := #[Value.ref b]) h0 hW0
  have hK := xs_K h0 hW0
  refine lv_aload_n hx hb d_LW_law_356 rfl (lv_at hl 3 rfl) ?_
  refine lv_aload_n hx hb d_LW_law_357 rfl (lv_at hl 4 rfl) ?_
  refine lv_iload hx hb d_LW_law_358 (lv_at hl 0 rfl) ?_
  refine lv_iconst (v := 1) hx hb d_LW_law_360 (by decide) ?_
  refine lv_iadd hx hb d_LW_law_361 ?_
  refine va_sld hx hb hXs hbl hbA hS (sc_in (k := 1) (show 6 * t + 1 < L by omega) (by omega)) d_LW_law_362 ?_
  refine lv_aload_n hx hb d_LW_law_363 rfl (lv_at hl 4 rfl) ?_
  refine lv_iload hx hb d_LW_law_364 (lv_at hl 0 rfl) ?_
  refine lv_iconst (v := 2) hx hb d_LW_law_366 (by decide) ?_
  refine lv_iadd hx hb d_LW_law_367 ?_
  refine va_sld hx hb hXs hbl hbA hS (sc_in (k := 2) (show 6 * t + 2 < L by omega) (by omega)) d_LW_law_368 ?_
  refine lv_aload_n hx hb d_LW_law_369 rfl (lv_at hl 4 rfl) ?_
  refine lv_iload hx hb d_LW_law_370 (lv_at hl 0 rfl) ?_
  refine lv_iconst (v := 3) hx hb d_LW_law_372 (by decide) ?_
  refine lv_iadd hx hb d_LW_law_373 ?_
  refine va_sld hx hb hXs hbl hbA hS (sc_in (k := 3) (show 6 * t + 3 < L by omega) (by omega)) d_LW_law_374 ?_
  refine xc_s (rest := []) (x_invS (argsL := [.ref (xB s + XA 0 0), .int (xs ((nI (6 * t)) + (1 : Int32)).toNatClampNeg), .int (xs ((nI (6 * t)) + (2 : Int32)).toNatClampNeg), .int (xs ((nI (6 * t)) + (3 : Int32)).toNatClampNeg)]) hx hb hown (hts _ w_330) (hts _ w_331) (hts _ w_33) (x_codeW (hts _ w_332)) ⟨by decide, by decide⟩ rfl rfl rfl d_LW_law_375) (c_LW_item h0 σ (xs ((nI (6 * t)) + (1 : Int32)).toNatClampNeg) (xs ((nI (6 * t)) + (2 : Int32)).toNatClampNeg) (xs ((nI (6 * t)) + (3 : Int32)).toNatClampNeg) (h.xok (by omega))) (xs_cwW h0 hW0 m_332) (hts _ w_33) ⟨rfl, rfl, Nat.le_of_ble_eq_true rfl, Nat.le_of_ble_eq_true rfl⟩ (hl.1.trans hml.symm) (by rw [hb]; exact d_LW_law_375) (Nat.le_of_ble_eq_true rfl) ⟨by show _ ≤ 601024; omega, by show _ ≤ 7293034; omega⟩ hX hW0 hS (fun v σ1 H locs hM hX hS => ?_) (fun E x H1 locs1 hM => by cases hM)
  obtain ⟨ev, es⟩ := x_inl hM
  subst es
  subst ev
  have hR := r_item h ht (xs ((nI (6 * t)) + (1 : Int32)).toNatClampNeg) (xs ((nI (6 * t)) + (2 : Int32)).toNatClampNeg) (xs ((nI (6 * t)) + (3 : Int32)).toNatClampNeg)
  refine lv_istore (lv' := [(5, .int ((S_LW_item σ (xs ((nI (6 * t)) + (1 : Int32)).toNatClampNeg) (xs ((nI (6 * t)) + (2 : Int32)).toNatClampNeg) (xs ((nI (6 * t)) + (3 : Int32)).toNatClampNeg)).1)), (4, .int (nI (6 * t))), (3, .ref (xB s + XA 31 0)), (2, .ref (xB s + XA 15 0)), (1, .ref (xB s + XA 0 0)), (0, .ref b)]) hx hb d_LW_law_378 hl (by decide) rfl (fun ls hl => ?_)
  refine lv_aload_n hx hb d_LW_law_380 rfl (lv_at hl 3 rfl) ?_
  refine lv_aload_n hx hb d_LW_law_381 rfl (lv_at hl 5 rfl) ?_
  refine lv_iload hx hb d_LW_law_382 (lv_at hl 1 rfl) ?_
  refine lv_iconst (v := 1) hx hb d_LW_law_384 (by decide) ?_
  refine lv_iadd hx hb d_LW_law_385 ?_
  refine va_sld hx hb hXs hbl hbA hS (sc_in (k := 1) (show 6 * t + 1 < L by omega) (by omega)) d_LW_law_386 ?_
  refine lv_aload_n hx hb d_LW_law_387 rfl (lv_at hl 5 rfl) ?_
  refine lv_iload hx hb d_LW_law_388 (lv_at hl 1 rfl) ?_
  refine lv_iconst (v := 2) hx hb d_LW_law_390 (by decide) ?_
  refine lv_iadd hx hb d_LW_law_391 ?_
  refine va_sld hx hb hXs hbl hbA hS (sc_in (k := 2) (show 6 * t + 2 < L by omega) (by omega)) d_LW_law_392 ?_
  refine lv_aload_n hx hb d_LW_law_393 rfl (lv_at hl 5 rfl) ?_
  refine lv_iload hx hb d_LW_law_394 (lv_at hl 1 rfl) ?_
  refine lv_iconst (v := 3) hx hb d_LW_law_396 (by decide) ?_
  refine lv_iadd hx hb d_LW_law_397 ?_
  refine va_sld hx hb hXs hbl hbA hS (sc_in (k := 3) (show 6 * t + 3 < L by omega) (by omega)) d_LW_law_398 ?_
  obtain ⟨cB, hcB, hoB, hkB⟩ := xw_recv (r := 15) (i := 0) hK hX (by decide) rfl rfl
  refine xc_s (rest := []) (x_invV (argsL := [.int (xs ((nI (6 * t)) + (1 : Int32)).toNatClampNeg), .int (xs ((nI (6 * t)) + (2 : Int32)).toNatClampNeg), .int (xs ((nI (6 * t)) + (3 : Int32)).toNatClampNeg)]) hx hb hown (hts _ w_694) (hts _ w_695) (hts _ w_696) (x_code (hts _ w_697)) ⟨by decide, by decide⟩ hcB hoB hkB rfl rfl rfl d_LW_law_399) (c_MO_item h0 (S_LW_item σ (xs ((nI (6 * t)) + (1 : Int32)).toNatClampNeg) (xs ((nI (6 * t)) + (2 : Int32)).toNatClampNeg) (xs ((nI (6 * t)) + (3 : Int32)).toNatClampNeg)).2 (xs ((nI (6 * t)) + (1 : Int32)).toNatClampNeg) (xs ((nI (6 * t)) + (2 : Int32)).toNatClampNeg) (xs ((nI (6 * t)) + (3 : Int32)).toNatClampNeg)) (xs_cw h0 hW0 m_697) (hts _ w_38) ⟨rfl, rfl, Nat.le_of_ble_eq_true rfl, Nat.le_of_ble_eq_true rfl⟩ (hl.1.trans hml.symm) (by rw [hb]; exact d_LW_law_399) (Nat.le_of_ble_eq_true rfl) ⟨by show _ ≤ 601024; omega, by show _ ≤ 7293034; omega⟩ hX hW0 hS (fun v σ1 H locs hM hX hS => ?_) (fun E x H1 locs1 hM => by cases hM)
  obtain ⟨ev, es⟩ := x_inl hM
  subst es
  refine lv_aload_n hx hb d_LW_law_402 rfl (lv_at hl 3 rfl) ?_
  obtain ⟨cB403, hcB403, hoB403, hkB403⟩ := xw_recv (r := 15) (i := 0) hK hX (by decide) rfl rfl
  refine xc_f (rest := []) (x_invV (argsL := []) hx hb hown (hts _ w_656) (hts _ w_657) (hts _ w_658) (x_code (hts _ w_659)) ⟨by decide, by decide⟩ hcB403 hoB403 hkB403 rfl rfl rfl d_LW_law_403) (c_MO_thrown h0 (S_MO_item (S_LW_item σ (xs ((nI (6 * t)) + (1 : Int32)).toNatClampNeg) (xs ((nI (6 * t)) + (2 : Int32)).toNatClampNeg) (xs ((nI (6 * t)) + (3 : Int32)).toNatClampNeg)).2 (xs ((nI (6 * t)) + (1 : Int32)).toNatClampNeg) (xs ((nI (6 * t)) + (2 : Int32)).toNatClampNeg) (xs ((nI (6 * t)) + (3 : Int32)).toNatClampNeg)).2) (xs_cw h0 hW0 m_659) (hts _ w_38) ⟨rfl, rfl, Nat.le_of_ble_eq_true rfl, Nat.le_of_ble_eq_true rfl⟩ (hl.1.trans hml.symm) (by rw [hb]; exact d_LW_law_403) (Nat.le_of_ble_eq_true rfl) ⟨by show _ ≤ 601024; omega, by show _ ≤ 7293034; omega⟩ hX ⟨hW0, xo_S hS⟩ ?_
  refine lv_iload hx hb d_LW_law_406 (lv_at hl 0 rfl) ?_
  refine lv_icmp_eq (tgt := 413) hx hb d_LW_law_408 (by decide) (fun _ => ?_) (fun c => absurd hR.2 c)
  refine lv_goto (tgt := 1611) hx hb d_LW_law_413 (by decide) ?_
  refine W.widen (k := 127 + 9 * (t + 1)) (n := 14114 + 54 * (t + 1)) (by omega) (by omega) ?_
  refine lv_iinc (v := nI (6 * (t + 1))) (lv' := [(4, .int (nI (6 * (t + 1)))), (5, .int ((S_LW_item σ (xs ((nI (6 * t)) + (1 : Int32)).toNatClampNeg) (xs ((nI (6 * t)) + (2 : Int32)).toNatClampNeg) (xs ((nI (6 * t)) + (3 : Int32)).toNatClampNeg)).1)), (3, .ref (xB s + XA 31 0)), (2, .ref (xB s + XA 15 0)), (1, .ref (xB s + XA 0 0)), (0, .ref b)]) hx hb d_LW_law_1611 hl (k := 1) rfl (by show nI (6 * t) + nI 6 = _; rw [nI_add]; exact congrArg nI (by omega)) (by decide) rfl (fun ls hl => ?_)
  refine lv_goto (tgt := 23) hx hb d_LW_law_1614 (by decide) ?_
  exact ih _ _ _ ls hR.1 hX hS (lv_sub hl [0, 2, 3, 4, 5] rfl)

set_option maxHeartbeats 8000000 in
set_option maxRecDepth 100000 in
theorem k_list {p : Program} {l : Launch} {e : Env} {s : State} {m : MethodId} {below : List Frame} {meth : Method} {c : Code} {b L : Nat} {xs : Nat → Int32} {D : va_G} {dA : Nat → ClassId} (h0 : XS0 l s #[Value.ref b] D dA) (C0 : lw_At p s m meth c b L xs) {t : Nat} (ht : t < 512) (hL : 6 * t + 6 ≤ L) (hL2 : L ≤ 3072) {σ : XS} (h : Rel t σ) {H : Heap} {locs : List Loc} (hX : XWs D dA s σ H) (hS : va_S (xAm s) s.heap H locs) {ls : Array Slot} (hl : lv_has ls 8 [(4, .int (nI (6 * t))), (3, .ref (xB s + XA 31 0)), (2, .ref (xB s + XA 15 0)), (1, .ref (xB s + XA 0 0)), (0, .ref b)])
    (ih : ∀ (σ' : XS) (H' : Heap) (locs' : List Loc) (ls' : Array Slot), Rel (t + 1) σ' → XWs D dA s σ' H' → va_S (xAm s) s.heap H' locs' → lv_has ls' 8 [(4, .int (nI (6 * (t + 1)))), (3, .ref (xB s + XA 31 0)), (2, .ref (xB s + XA 15 0)), (1, .ref (xB s + XA 0 0)), (0, .ref b)] → W p l e room_1 s m #[Value.ref b] below meth c H' locs' (127 + 9 * (t + 1)) (14114 + 54 * (t + 1)) (lw_Z below #[Value.ref b] s) (F0 m 23 ls' [])) :
    W p l e room_1 s m #[Value.ref b] below meth c H locs (127 + 9 * t) (14114 + 54 * t) (lw_Z below #[Value.ref b] s) (F0 m 416 ls []) := by
  obtain ⟨hx, hb, hr, hml, hown, htsL, hXs, hbl, hlocks, hgv⟩ := C0
  have hbA : ¬ xAm s b := Nat.not_le.mpr hbl
  have hW0 : s.WarmedH s.vm := State.WarmedH.refl s
  have hts := xs_w (args := #[Value.ref b]) h0 hW0
  have hK := xs_K h0 hW0
  refine lv_aload_n hx hb d_LW_law_416 rfl (lv_at hl 3 rfl) ?_
  refine lv_aload_n hx hb d_LW_law_417 rfl (lv_at hl 4 rfl) ?_
  refine lv_iload hx hb d_LW_law_418 (lv_at hl 0 rfl) ?_
  refine lv_iconst (v := 1) hx hb d_LW_law_420 (by decide) ?_
  refine lv_iadd hx hb d_LW_law_421 ?_
  refine va_sld hx hb hXs hbl hbA hS (sc_in (k := 1) (show 6 * t + 1 < L by omega) (by omega)) d_LW_law_422 ?_
  refine lv_aload_n hx hb d_LW_law_423 rfl (lv_at hl 4 rfl) ?_
  refine lv_iload hx hb d_LW_law_424 (lv_at hl 0 rfl) ?_
  refine lv_iconst (v := 2) hx hb d_LW_law_426 (by decide) ?_
  refine lv_iadd hx hb d_LW_law_427 ?_
  refine va_sld hx hb hXs hbl hbA hS (sc_in (k := 2) (show 6 * t + 2 < L by omega) (by omega)) d_LW_law_428 ?_
  refine lv_aload_n hx hb d_LW_law_429 rfl (lv_at hl 4 rfl) ?_
  refine lv_iload hx hb d_LW_law_430 (lv_at hl 0 rfl) ?_
  refine lv_iconst (v := 3) hx hb d_LW_law_432 (by decide) ?_
  refine lv_iadd hx hb d_LW_law_433 ?_
  refine va_sld hx hb hXs hbl hbA hS (sc_in (k := 3) (show 6 * t + 3 < L by omega) (by omega)) d_LW_law_434 ?_
  refine lv_aload_n hx hb d_LW_law_435 rfl (lv_at hl 4 rfl) ?_
  refine lv_iload hx hb d_LW_law_436 (lv_at hl 0 rfl) ?_
  refine lv_iconst (v := 4) hx hb d_LW_law_438 (by decide) ?_
  refine lv_iadd hx hb d_LW_law_439 ?_
  refine va_sld hx hb hXs hbl hbA hS (sc_in (k := 4) (show 6 * t + 4 < L by omega) (by omega)) d_LW_law_440 ?_
  refine xc_s (rest := []) (x_invS (argsL := [.ref (xB s + XA 0 0), .int (xs ((nI (6 * t)) + (1 : Int32)).toNatClampNeg), .int (xs ((nI (6 * t)) + (2 : Int32)).toNatClampNeg), .int (xs ((nI (6 * t)) + (3 : Int32)).toNatClampNeg), .int (xs ((nI (6 * t)) + (4 : Int32)).toNatClampNeg)]) hx hb hown (hts _ w_351) (hts _ w_352) (hts _ w_33) (x_codeW (hts _ w_353)) ⟨by decide, by decide⟩ rfl rfl rfl d_LW_law_441) (c_LW_list h0 σ (xs ((nI (6 * t)) + (1 : Int32)).toNatClampNeg) (xs ((nI (6 * t)) + (2 : Int32)).toNatClampNeg) (xs ((nI (6 * t)) + (3 : Int32)).toNatClampNeg) (xs ((nI (6 * t)) + (4 : Int32)).toNatClampNeg)) (xs_cwW h0 hW0 m_353) (hts _ w_33) ⟨rfl, rfl, Nat.le_of_ble_eq_true rfl, Nat.le_of_ble_eq_true rfl⟩ (hl.1.trans hml.symm) (by rw [hb]; exact d_LW_law_441) (Nat.le_of_ble_eq_true rfl) ⟨by show _ ≤ 601024; omega, by show _ ≤ 7293034; omega⟩ hX hW0 hS (fun v σ1 H locs hM hX hS => ?_) (fun E x H1 locs1 hM => by cases hM)
  obtain ⟨ev, es⟩ := x_inl hM
  subst es
  subst ev
  have hR := r_list h ht (xs ((nI (6 * t)) + (1 : Int32)).toNatClampNeg) (xs ((nI (6 * t)) + (2 : Int32)).toNatClampNeg) (xs ((nI (6 * t)) + (3 : Int32)).toNatClampNeg) (xs ((nI (6 * t)) + (4 : Int32)).toNatClampNeg)
  refine lv_istore (lv' := [(5, .int ((S_LW_list σ (xs ((nI (6 * t)) + (1 : Int32)).toNatClampNeg) (xs ((nI (6 * t)) + (2 : Int32)).toNatClampNeg) (xs ((nI (6 * t)) + (3 : Int32)).toNatClampNeg) (xs ((nI (6 * t)) + (4 : Int32)).toNatClampNeg)).1)), (4, .int (nI (6 * t))), (3, .ref (xB s + XA 31 0)), (2, .ref (xB s + XA 15 0)), (1, .ref (xB s + XA 0 0)), (0, .ref b)]) hx hb d_LW_law_444 hl (by decide) rfl (fun ls hl => ?_)
  refine lv_aload_n hx hb d_LW_law_446 rfl (lv_at hl 3 rfl) ?_
  refine lv_aload_n hx hb d_LW_law_447 rfl (lv_at hl 5 rfl) ?_
  refine lv_iload hx hb d_LW_law_448 (lv_at hl 1 rfl) ?_
  refine lv_iconst (v := 1) hx hb d_LW_law_450 (by decide) ?_
  refine lv_iadd hx hb d_LW_law_451 ?_
  refine va_sld hx hb hXs hbl hbA hS (sc_in (k := 1) (show 6 * t + 1 < L by omega) (by omega)) d_LW_law_452 ?_
  refine lv_aload_n hx hb d_LW_law_453 rfl (lv_at hl 5 rfl) ?_
  refine lv_iload hx hb d_LW_law_454 (lv_at hl 1 rfl) ?_
  refine lv_iconst (v := 2) hx hb d_LW_law_456 (by decide) ?_
  refine lv_iadd hx hb d_LW_law_457 ?_
  refine va_sld hx hb hXs hbl hbA hS (sc_in (k := 2) (show 6 * t + 2 < L by omega) (by omega)) d_LW_law_458 ?_
  refine lv_aload_n hx hb d_LW_law_459 rfl (lv_at hl 5 rfl) ?_
  refine lv_iload hx hb d_LW_law_460 (lv_at hl 1 rfl) ?_
  refine lv_iconst (v := 3) hx hb d_LW_law_462 (by decide) ?_
  refine lv_iadd hx hb d_LW_law_463 ?_
  refine va_sld hx hb hXs hbl hbA hS (sc_in (k := 3) (show 6 * t + 3 < L by omega) (by omega)) d_LW_law_464 ?_
  refine lv_aload_n hx hb d_LW_law_465 rfl (lv_at hl 5 rfl) ?_
  refine lv_iload hx hb d_LW_law_466 (lv_at hl 1 rfl) ?_
  refine lv_iconst (v := 4) hx hb d_LW_law_468 (by decide) ?_
  refine lv_iadd hx hb d_LW_law_469 ?_
  refine va_sld hx hb hXs hbl hbA hS (sc_in (k := 4) (show 6 * t + 4 < L by omega) (by omega)) d_LW_law_470 ?_
  obtain ⟨cB, hcB, hoB, hkB⟩ := xw_recv (r := 15) (i := 0) hK hX (by decide) rfl rfl
  refine xc_s (rest := []) (x_invV (argsL := [.int (xs ((nI (6 * t)) + (1 : Int32)).toNatClampNeg), .int (xs ((nI (6 * t)) + (2 : Int32)).toNatClampNeg), .int (xs ((nI (6 * t)) + (3 : Int32)).toNatClampNeg), .int (xs ((nI (6 * t)) + (4 : Int32)).toNatClampNeg)]) hx hb hown (hts _ w_706) (hts _ w_707) (hts _ w_708) (x_code (hts _ w_709)) ⟨by decide, by decide⟩ hcB hoB hkB rfl rfl rfl d_LW_law_471) (c_MO_list h0 (S_LW_list σ (xs ((nI (6 * t)) + (1 : Int32)).toNatClampNeg) (xs ((nI (6 * t)) + (2 : Int32)).toNatClampNeg) (xs ((nI (6 * t)) + (3 : Int32)).toNatClampNeg) (xs ((nI (6 * t)) + (4 : Int32)).toNatClampNeg)).2 (xs ((nI (6 * t)) + (1 : Int32)).toNatClampNeg) (xs ((nI (6 * t)) + (2 : Int32)).toNatClampNeg) (xs ((nI (6 * t)) + (3 : Int32)).toNatClampNeg) (xs ((nI (6 * t)) + (4 : Int32)).toNatClampNeg)) (xs_cw h0 hW0 m_709) (hts _ w_38) ⟨rfl, rfl, Nat.le_of_ble_eq_true rfl, Nat.le_of_ble_eq_true rfl⟩ (hl.1.trans hml.symm) (by rw [hb]; exact d_LW_law_471) (Nat.le_of_ble_eq_true rfl) ⟨by show _ ≤ 601024; omega, by show _ ≤ 7293034; omega⟩ hX hW0 hS (fun v σ1 H locs hM hX hS => ?_) (fun E x H1 locs1 hM => by cases hM)
  obtain ⟨ev, es⟩ := x_inl hM
  subst es
  refine lv_aload_n hx hb d_LW_law_474 rfl (lv_at hl 3 rfl) ?_
  obtain ⟨cB475, hcB475, hoB475, hkB475⟩ := xw_recv (r := 15) (i := 0) hK hX (by decide) rfl rfl
  refine xc_f (rest := []) (x_invV (argsL := []) hx hb hown (hts _ w_656) (hts _ w_657) (hts _ w_658) (x_code (hts _ w_659)) ⟨by decide, by decide⟩ hcB475 hoB475 hkB475 rfl rfl rfl d_LW_law_475) (c_MO_thrown h0 (S_MO_list (S_LW_list σ (xs ((nI (6 * t)) + (1 : Int32)).toNatClampNeg) (xs ((nI (6 * t)) + (2 : Int32)).toNatClampNeg) (xs ((nI (6 * t)) + (3 : Int32)).toNatClampNeg) (xs ((nI (6 * t)) + (4 : Int32)).toNatClampNeg)).2 (xs ((nI (6 * t)) + (1 : Int32)).toNatClampNeg) (xs ((nI (6 * t)) + (2 : Int32)).toNatClampNeg) (xs ((nI (6 * t)) + (3 : Int32)).toNatClampNeg) (xs ((nI (6 * t)) + (4 : Int32)).toNatClampNeg)).2) (xs_cw h0 hW0 m_659) (hts _ w_38) ⟨rfl, rfl, Nat.le_of_ble_eq_true rfl, Nat.le_of_ble_eq_true rfl⟩ (hl.1.trans hml.symm) (by rw [hb]; exact d_LW_law_475) (Nat.le_of_ble_eq_true rfl) ⟨by show _ ≤ 601024; omega, by show _ ≤ 7293034; omega⟩ hX ⟨hW0, xo_S hS⟩ ?_
  refine lv_iload hx hb d_LW_law_478 (lv_at hl 0 rfl) ?_
  refine lv_icmp_eq (tgt := 485) hx hb d_LW_law_480 (by decide) (fun _ => ?_) (fun c => absurd hR.2 c)
  refine lv_goto (tgt := 1611) hx hb d_LW_law_485 (by decide) ?_
  refine W.widen (k := 127 + 9 * (t + 1)) (n := 14114 + 54 * (t + 1)) (by omega) (by omega) ?_
  refine lv_iinc (v := nI (6 * (t + 1))) (lv' := [(4, .int (nI (6 * (t + 1)))), (5, .int ((S_LW_list σ (xs ((nI (6 * t)) + (1 : Int32)).toNatClampNeg) (xs ((nI (6 * t)) + (2 : Int32)).toNatClampNeg) (xs ((nI (6 * t)) + (3 : Int32)).toNatClampNeg) (xs ((nI (6 * t)) + (4 : Int32)).toNatClampNeg)).1)), (3, .ref (xB s + XA 31 0)), (2, .ref (xB s + XA 15 0)), (1, .ref (xB s + XA 0 0)), (0, .ref b)]) hx hb d_LW_law_1611 hl (k := 1) rfl (by show nI (6 * t) + nI 6 = _; rw [nI_add]; exact congrArg nI (by omega)) (by decide) rfl (fun ls hl => ?_)
  refine lv_goto (tgt := 23) hx hb d_LW_law_1614 (by decide) ?_
  exact ih _ _ _ ls hR.1 hX hS (lv_sub hl [0, 2, 3, 4, 5] rfl)

set_option maxHeartbeats 8000000 in
set_option maxRecDepth 100000 in
theorem k_stock {p : Program} {l : Launch} {e : Env} {s : State} {m : MethodId} {below : List Frame} {meth : Method} {c : Code} {b L : Nat} {xs : Nat → Int32} {D : va_G} {dA : Nat → ClassId} (h0 : XS0 l s #[Value.ref b] D dA) (C0 : lw_At p s m meth c b L xs) {t : Nat} (ht : t < 512) (hL : 6 * t + 6 ≤ L) (hL2 : L ≤ 3072) {σ : XS} (h : Rel t σ) {H : Heap} {locs : List Loc} (hX : XWs D dA s σ H) (hS : va_S (xAm s) s.heap H locs) {ls : Array Slot} (hl : lv_has ls 8 [(4, .int (nI (6 * t))), (3, .ref (xB s + XA 31 0)), (2, .ref (xB s + XA 15 0)), (1, .ref (xB s + XA 0 0)), (0, .ref b)])
    (ih : ∀ (σ' : XS) (H' : Heap) (locs' : List Loc) (ls' : Array Slot), Rel (t + 1) σ' → XWs D dA s σ' H' → va_S (xAm s) s.heap H' locs' → lv_has ls' 8 [(4, .int (nI (6 * (t + 1)))), (3, .ref (xB s + XA 31 0)), (2, .ref (xB s + XA 15 0)), (1, .ref (xB s + XA 0 0)), (0, .ref b)] → W p l e room_1 s m #[Value.ref b] below meth c H' locs' (127 + 9 * (t + 1)) (14114 + 54 * (t + 1)) (lw_Z below #[Value.ref b] s) (F0 m 23 ls' [])) :
    W p l e room_1 s m #[Value.ref b] below meth c H locs (127 + 9 * t) (14114 + 54 * t) (lw_Z below #[Value.ref b] s) (F0 m 488 ls []) := by
  obtain ⟨hx, hb, hr, hml, hown, htsL, hXs, hbl, hlocks, hgv⟩ := C0
  have hbA : ¬ xAm s b := Nat.not_le.mpr hbl
  have hW0 : s.WarmedH s.vm := State.WarmedH.refl s
  have hts := xs_w (args := #[Value.ref b]) h0 hW0
  have hK := xs_K h0 hW0
  refine lv_aload_n hx hb d_LW_law_488 rfl (lv_at hl 3 rfl) ?_
  refine lv_aload_n hx hb d_LW_law_489 rfl (lv_at hl 4 rfl) ?_
  refine lv_iload hx hb d_LW_law_490 (lv_at hl 0 rfl) ?_
  refine lv_iconst (v := 1) hx hb d_LW_law_492 (by decide) ?_
  refine lv_iadd hx hb d_LW_law_493 ?_
  refine va_sld hx hb hXs hbl hbA hS (sc_in (k := 1) (show 6 * t + 1 < L by omega) (by omega)) d_LW_law_494 ?_
  refine lv_aload_n hx hb d_LW_law_495 rfl (lv_at hl 4 rfl) ?_
  refine lv_iload hx hb d_LW_law_496 (lv_at hl 0 rfl) ?_
  refine lv_iconst (v := 2) hx hb d_LW_law_498 (by decide) ?_
  refine lv_iadd hx hb d_LW_law_499 ?_
  refine va_sld hx hb hXs hbl hbA hS (sc_in (k := 2) (show 6 * t + 2 < L by omega) (by omega)) d_LW_law_500 ?_
  refine lv_aload_n hx hb d_LW_law_501 rfl (lv_at hl 1 rfl) ?_
  refine xc_s (rest := []) (x_invS (argsL := [.ref (xB s + XA 0 0), .int (xs ((nI (6 * t)) + (1 : Int32)).toNatClampNeg), .int (xs ((nI (6 * t)) + (2 : Int32)).toNatClampNeg), .ref (xB s + XA 31 0)]) hx hb hown (hts _ w_359) (hts _ w_360) (hts _ w_33) (x_codeW (hts _ w_361)) ⟨by decide, by decide⟩ rfl rfl rfl d_LW_law_502) (c_LW_stock h0 σ (xs ((nI (6 * t)) + (1 : Int32)).toNatClampNeg) (xs ((nI (6 * t)) + (2 : Int32)).toNatClampNeg)) (xs_cwW h0 hW0 m_361) (hts _ w_33) ⟨rfl, rfl, Nat.le_of_ble_eq_true rfl, Nat.le_of_ble_eq_true rfl⟩ (hl.1.trans hml.symm) (by rw [hb]; exact d_LW_law_502) (Nat.le_of_ble_eq_true rfl) ⟨by show _ ≤ 601024; omega, by show _ ≤ 7293034; omega⟩ hX hW0 hS (fun v σ1 H locs hM hX hS => ?_) (fun E x H1 locs1 hM => by cases hM)
  obtain ⟨ev, es⟩ := x_inl hM
  subst es
  subst ev
  have hR := r_stock h ht (xs ((nI (6 * t)) + (1 : Int32)).toNatClampNeg) (xs ((nI (6 * t)) + (2 : Int32)).toNatClampNeg)
  refine lv_istore (lv' := [(5, .int ((S_LW_stock σ (xs ((nI (6 * t)) + (1 : Int32)).toNatClampNeg) (xs ((nI (6 * t)) + (2 : Int32)).toNatClampNeg)).1)), (4, .int (nI (6 * t))), (3, .ref (xB s + XA 31 0)), (2, .ref (xB s + XA 15 0)), (1, .ref (xB s + XA 0 0)), (0, .ref b)]) hx hb d_LW_law_505 hl (by decide) rfl (fun ls hl => ?_)
  refine lv_aload_n hx hb d_LW_law_507 rfl (lv_at hl 3 rfl) ?_
  refine lv_aload_n hx hb d_LW_law_508 rfl (lv_at hl 5 rfl) ?_
  refine lv_iload hx hb d_LW_law_509 (lv_at hl 1 rfl) ?_
  refine lv_iconst (v := 1) hx hb d_LW_law_511 (by decide) ?_
  refine lv_iadd hx hb d_LW_law_512 ?_
  refine va_sld hx hb hXs hbl hbA hS (sc_in (k := 1) (show 6 * t + 1 < L by omega) (by omega)) d_LW_law_513 ?_
  refine lv_aload_n hx hb d_LW_law_514 rfl (lv_at hl 5 rfl) ?_
  refine lv_iload hx hb d_LW_law_515 (lv_at hl 1 rfl) ?_
  refine lv_iconst (v := 2) hx hb d_LW_law_517 (by decide) ?_
  refine lv_iadd hx hb d_LW_law_518 ?_
  refine va_sld hx hb hXs hbl hbA hS (sc_in (k := 2) (show 6 * t + 2 < L by omega) (by omega)) d_LW_law_519 ?_
  obtain ⟨cB, hcB, hoB, hkB⟩ := xw_recv (r := 15) (i := 0) hK hX (by decide) rfl rfl
  refine xc_s (rest := []) (x_invV (argsL := [.int (xs ((nI (6 * t)) + (1 : Int32)).toNatClampNeg), .int (xs ((nI (6 * t)) + (2 : Int32)).toNatClampNeg)]) hx hb hown (hts _ w_710) (hts _ w_711) (hts _ w_712) (x_code (hts _ w_713)) ⟨by decide, by decide⟩ hcB hoB hkB rfl rfl rfl d_LW_law_520) (c_MO_stock h0 (S_LW_stock σ (xs ((nI (6 * t)) + (1 : Int32)).toNatClampNeg) (xs ((nI (6 * t)) + (2 : Int32)).toNatClampNeg)).2 (xs ((nI (6 * t)) + (1 : Int32)).toNatClampNeg) (xs ((nI (6 * t)) + (2 : Int32)).toNatClampNeg)) (xs_cw h0 hW0 m_713) (hts _ w_38) ⟨rfl, rfl, Nat.le_of_ble_eq_true rfl, Nat.le_of_ble_eq_true rfl⟩ (hl.1.trans hml.symm) (by rw [hb]; exact d_LW_law_520) (Nat.le_of_ble_eq_true rfl) ⟨by show _ ≤ 601024; omega, by show _ ≤ 7293034; omega⟩ hX hW0 hS (fun v σ1 H locs hM hX hS => ?_) (fun E x H1 locs1 hM => by cases hM)
  obtain ⟨ev, es⟩ := x_inl hM
  subst es
  subst ev
  refine lv_istore (lv' := [(6, .int ((S_MO_stock (S_LW_stock σ (xs ((nI (6 * t)) + (1 : Int32)).toNatClampNeg) (xs ((nI (6 * t)) + (2 : Int32)).toNatClampNeg)).2 (xs ((nI (6 * t)) + (1 : Int32)).toNatClampNeg) (xs ((nI (6 * t)) + (2 : Int32)).toNatClampNeg)).1)), (5, .int ((S_LW_stock σ (xs ((nI (6 * t)) + (1 : Int32)).toNatClampNeg) (xs ((nI (6 * t)) + (2 : Int32)).toNatClampNeg)).1)), (4, .int (nI (6 * t))), (3, .ref (xB s + XA 31 0)), (2, .ref (xB s + XA 15 0)), (1, .ref (xB s + XA 0 0)), (0, .ref b)]) hx hb d_LW_law_523 hl (by decide) rfl (fun ls hl => ?_)
  refine lv_aload_n hx hb d_LW_law_525 rfl (lv_at hl 4 rfl) ?_
  obtain ⟨cB526, hcB526, hoB526, hkB526⟩ := xw_recv (r := 15) (i := 0) hK hX (by decide) rfl rfl
  refine xc_f (rest := []) (x_invV (argsL := []) hx hb hown (hts _ w_656) (hts _ w_657) (hts _ w_658) (x_code (hts _ w_659)) ⟨by decide, by decide⟩ hcB526 hoB526 hkB526 rfl rfl rfl d_LW_law_526) (c_MO_thrown h0 (S_MO_stock (S_LW_stock σ (xs ((nI (6 * t)) + (1 : Int32)).toNatClampNeg) (xs ((nI (6 * t)) + (2 : Int32)).toNatClampNeg)).2 (xs ((nI (6 * t)) + (1 : Int32)).toNatClampNeg) (xs ((nI (6 * t)) + (2 : Int32)).toNatClampNeg)).2) (xs_cw h0 hW0 m_659) (hts _ w_38) ⟨rfl, rfl, Nat.le_of_ble_eq_true rfl, Nat.le_of_ble_eq_true rfl⟩ (hl.1.trans hml.symm) (by rw [hb]; exact d_LW_law_526) (Nat.le_of_ble_eq_true rfl) ⟨by show _ ≤ 601024; omega, by show _ ≤ 7293034; omega⟩ hX ⟨hW0, xo_S hS⟩ ?_
  refine lv_iload hx hb d_LW_law_529 (lv_at hl 1 rfl) ?_
  refine lv_icmp_eq (tgt := 536) hx hb d_LW_law_531 (by decide) (fun _ => ?_) (fun c => absurd hR.2.1 c)
  refine lv_iload hx hb d_LW_law_536 (lv_at hl 1 rfl) ?_
  refine lv_if_ne (tgt := 553) hx hb d_LW_law_538 (by decide) (fun c0 => ?_) (fun c0 => ?_)
  · refine lv_goto (tgt := 1611) hx hb d_LW_law_553 (by decide) ?_
    refine W.widen (k := 127 + 9 * (t + 1)) (n := 14114 + 54 * (t + 1)) (by omega) (by omega) ?_
    refine lv_iinc (v := nI (6 * (t + 1))) (lv' := [(4, .int (nI (6 * (t + 1)))), (6, .int ((S_MO_stock (S_LW_stock σ (xs ((nI (6 * t)) + (1 : Int32)).toNatClampNeg) (xs ((nI (6 * t)) + (2 : Int32)).toNatClampNeg)).2 (xs ((nI (6 * t)) + (1 : Int32)).toNatClampNeg) (xs ((nI (6 * t)) + (2 : Int32)).toNatClampNeg)).1)), (5, .int ((S_LW_stock σ (xs ((nI (6 * t)) + (1 : Int32)).toNatClampNeg) (xs ((nI (6 * t)) + (2 : Int32)).toNatClampNeg)).1)), (3, .ref (xB s + XA 31 0)), (2, .ref (xB s + XA 15 0)), (1, .ref (xB s + XA 0 0)), (0, .ref b)]) hx hb d_LW_law_1611 hl (k := 2) rfl (by show nI (6 * t) + nI 6 = _; rw [nI_add]; exact congrArg nI (by omega)) (by decide) rfl (fun ls hl => ?_)
    refine lv_goto (tgt := 23) hx hb d_LW_law_1614 (by decide) ?_
    exact ih _ _ _ ls hR.1 hX hS (lv_sub hl [0, 3, 4, 5, 6] rfl)
  · refine lv_aload_n hx hb d_LW_law_541 rfl (lv_at hl 3 rfl) ?_
    refine lv_iconst (v := 0) hx hb d_LW_law_542 (by decide) ?_
    refine xw_lald (r := 31) (i := 0) hx hb hK hX (by decide) 2 rfl rfl (j := 0) (pk_in 0 1 (by decide)) d_LW_law_543 ?_
    refine lv_iload hx hb d_LW_law_544 (lv_at hl 0 rfl) ?_
    refine lv_i2l hx hb d_LW_law_546 rfl ?_
    refine W.lcmp hx hb d_LW_law_547 ?_
    refine lv_if_eq (tgt := 553) hx hb d_LW_law_548 (by decide) (fun _ => ?_) (fun c => absurd ((lg_cmp_eq _ _).mpr (hR.2.2 c0)) c)
    refine lv_goto (tgt := 1611) hx hb d_LW_law_553 (by decide) ?_
    refine W.widen (k := 127 + 9 * (t + 1)) (n := 14114 + 54 * (t + 1)) (by omega) (by omega) ?_
    refine lv_iinc (v := nI (6 * (t + 1))) (lv' := [(4, .int (nI (6 * (t + 1)))), (6, .int ((S_MO_stock (S_LW_stock σ (xs ((nI (6 * t)) + (1 : Int32)).toNatClampNeg) (xs ((nI (6 * t)) + (2 : Int32)).toNatClampNeg)).2 (xs ((nI (6 * t)) + (1 : Int32)).toNatClampNeg) (xs ((nI (6 * t)) + (2 : Int32)).toNatClampNeg)).1)), (5, .int ((S_LW_stock σ (xs ((nI (6 * t)) + (1 : Int32)).toNatClampNeg) (xs ((nI (6 * t)) + (2 : Int32)).toNatClampNeg)).1)), (3, .ref (xB s + XA 31 0)), (2, .ref (xB s + XA 15 0)), (1, .ref (xB s + XA 0 0)), (0, .ref b)]) hx hb d_LW_law_1611 hl (k := 2) rfl (by show nI (6 * t) + nI 6 = _; rw [nI_add]; exact congrArg nI (by omega)) (by decide) rfl (fun ls hl => ?_)
    refine lv_goto (tgt := 23) hx hb d_LW_law_1614 (by decide) ?_
    exact ih _ _ _ ls hR.1 hX hS (lv_sub hl [0, 3, 4, 5, 6] rfl)

set_option maxHeartbeats 8000000 in
set_option maxRecDepth 100000 in
theorem k_put {p : Program} {l : Launch} {e : Env} {s : State} {m : MethodId} {below : List Frame} {meth : Method} {c : Code} {b L : Nat} {xs : Nat → Int32} {D : va_G} {dA : Nat → ClassId} (h0 : XS0 l s #[Value.ref b] D dA) (C0 : lw_At p s m meth c b L xs) {t : Nat} (ht : t < 512) (hL : 6 * t + 6 ≤ L) (hL2 : L ≤ 3072) {σ : XS} (h : Rel t σ) {H : Heap} {locs : List Loc} (hX : XWs D dA s σ H) (hS : va_S (xAm s) s.heap H locs) {ls : Array Slot} (hl : lv_has ls 8 [(4, .int (nI (6 * t))), (3, .ref (xB s + XA 31 0)), (2, .ref (xB s + XA 15 0)), (1, .ref (xB s + XA 0 0)), (0, .ref b)])
    (ih : ∀ (σ' : XS) (H' : Heap) (locs' : List Loc) (ls' : Array Slot), Rel (t + 1) σ' → XWs D dA s σ' H' → va_S (xAm s) s.heap H' locs' → lv_has ls' 8 [(4, .int (nI (6 * (t + 1)))), (3, .ref (xB s + XA 31 0)), (2, .ref (xB s + XA 15 0)), (1, .ref (xB s + XA 0 0)), (0, .ref b)] → W p l e room_1 s m #[Value.ref b] below meth c H' locs' (127 + 9 * (t + 1)) (14114 + 54 * (t + 1)) (lw_Z below #[Value.ref b] s) (F0 m 23 ls' [])) :
    W p l e room_1 s m #[Value.ref b] below meth c H locs (127 + 9 * t) (14114 + 54 * t) (lw_Z below #[Value.ref b] s) (F0 m 556 ls []) := by
  obtain ⟨hx, hb, hr, hml, hown, htsL, hXs, hbl, hlocks, hgv⟩ := C0
  have hbA : ¬ xAm s b := Nat.not_le.mpr hbl
  have hW0 : s.WarmedH s.vm := State.WarmedH.refl s
  have hts := xs_w (args := #[Value.ref b]) h0 hW0
  have hK := xs_K h0 hW0
  refine lv_aload_n hx hb d_LW_law_556 rfl (lv_at hl 3 rfl) ?_
  refine lv_aload_n hx hb d_LW_law_557 rfl (lv_at hl 4 rfl) ?_
  refine lv_iload hx hb d_LW_law_558 (lv_at hl 0 rfl) ?_
  refine lv_iconst (v := 1) hx hb d_LW_law_560 (by decide) ?_
  refine lv_iadd hx hb d_LW_law_561 ?_
  refine va_sld hx hb hXs hbl hbA hS (sc_in (k := 1) (show 6 * t + 1 < L by omega) (by omega)) d_LW_law_562 ?_
  refine lv_aload_n hx hb d_LW_law_563 rfl (lv_at hl 4 rfl) ?_
  refine lv_iload hx hb d_LW_law_564 (lv_at hl 0 rfl) ?_
  refine lv_iconst (v := 2) hx hb d_LW_law_566 (by decide) ?_
  refine lv_iadd hx hb d_LW_law_567 ?_
  refine va_sld hx hb hXs hbl hbA hS (sc_in (k := 2) (show 6 * t + 2 < L by omega) (by omega)) d_LW_law_568 ?_
  refine lv_aload_n hx hb d_LW_law_569 rfl (lv_at hl 4 rfl) ?_
  refine lv_iload hx hb d_LW_law_570 (lv_at hl 0 rfl) ?_
  refine lv_iconst (v := 3) hx hb d_LW_law_572 (by decide) ?_
  refine lv_iadd hx hb d_LW_law_573 ?_
  refine va_sld hx hb hXs hbl hbA hS (sc_in (k := 3) (show 6 * t + 3 < L by omega) (by omega)) d_LW_law_574 ?_
  refine lv_aload_n hx hb d_LW_law_575 rfl (lv_at hl 4 rfl) ?_
  refine lv_iload hx hb d_LW_law_576 (lv_at hl 0 rfl) ?_
  refine lv_iconst (v := 4) hx hb d_LW_law_578 (by decide) ?_
  refine lv_iadd hx hb d_LW_law_579 ?_
  refine va_sld hx hb hXs hbl hbA hS (sc_in (k := 4) (show 6 * t + 4 < L by omega) (by omega)) d_LW_law_580 ?_
  refine lv_aload_n hx hb d_LW_law_581 rfl (lv_at hl 1 rfl) ?_
  refine xc_s (rest := []) (x_invS (argsL := [.ref (xB s + XA 0 0), .int (xs ((nI (6 * t)) + (1 : Int32)).toNatClampNeg), .int (xs ((nI (6 * t)) + (2 : Int32)).toNatClampNeg), .int (xs ((nI (6 * t)) + (3 : Int32)).toNatClampNeg), .int (xs ((nI (6 * t)) + (4 : Int32)).toNatClampNeg), .ref (xB s + XA 31 0)]) hx hb hown (hts _ w_367) (hts _ w_368) (hts _ w_33) (x_codeW (hts _ w_369)) ⟨by decide, by decide⟩ rfl rfl rfl d_LW_law_582) (c_LW_put h0 σ (xs ((nI (6 * t)) + (1 : Int32)).toNatClampNeg) (xs ((nI (6 * t)) + (2 : Int32)).toNatClampNeg) (xs ((nI (6 * t)) + (3 : Int32)).toNatClampNeg) (xs ((nI (6 * t)) + (4 : Int32)).toNatClampNeg) (h.xok (by omega))) (xs_cwW h0 hW0 m_369) (hts _ w_33) ⟨rfl, rfl, Nat.le_of_ble_eq_true rfl, Nat.le_of_ble_eq_true rfl⟩ (hl.1.trans hml.symm) (by rw [hb]; exact d_LW_law_582) (Nat.le_of_ble_eq_true rfl) ⟨by show _ ≤ 601024; omega, by show _ ≤ 7293034; omega⟩ hX hW0 hS (fun v σ1 H locs hM hX hS => ?_) (fun E x H1 locs1 hM => by cases hM)
  obtain ⟨ev, es⟩ := x_inl hM
  subst es
  subst ev
  have hR := r_put h ht (xs ((nI (6 * t)) + (1 : Int32)).toNatClampNeg) (xs ((nI (6 * t)) + (2 : Int32)).toNatClampNeg) (xs ((nI (6 * t)) + (3 : Int32)).toNatClampNeg) (xs ((nI (6 * t)) + (4 : Int32)).toNatClampNeg)
  refine lv_istore (lv' := [(5, .int ((S_LW_put σ (xs ((nI (6 * t)) + (1 : Int32)).toNatClampNeg) (xs ((nI (6 * t)) + (2 : Int32)).toNatClampNeg) (xs ((nI (6 * t)) + (3 : Int32)).toNatClampNeg) (xs ((nI (6 * t)) + (4 : Int32)).toNatClampNeg)).1)), (4, .int (nI (6 * t))), (3, .ref (xB s + XA 31 0)), (2, .ref (xB s + XA 15 0)), (1, .ref (xB s + XA 0 0)), (0, .ref b)]) hx hb d_LW_law_585 hl (by decide) rfl (fun ls hl => ?_)
  refine lv_aload_n hx hb d_LW_law_587 rfl (lv_at hl 3 rfl) ?_
  refine lv_aload_n hx hb d_LW_law_588 rfl (lv_at hl 5 rfl) ?_
  refine lv_iload hx hb d_LW_law_589 (lv_at hl 1 rfl) ?_
  refine lv_iconst (v := 1) hx hb d_LW_law_591 (by decide) ?_
  refine lv_iadd hx hb d_LW_law_592 ?_
  refine va_sld hx hb hXs hbl hbA hS (sc_in (k := 1) (show 6 * t + 1 < L by omega) (by omega)) d_LW_law_593 ?_
  refine lv_aload_n hx hb d_LW_law_594 rfl (lv_at hl 5 rfl) ?_
  refine lv_iload hx hb d_LW_law_595 (lv_at hl 1 rfl) ?_
  refine lv_iconst (v := 2) hx hb d_LW_law_597 (by decide) ?_
  refine lv_iadd hx hb d_LW_law_598 ?_
  refine va_sld hx hb hXs hbl hbA hS (sc_in (k := 2) (show 6 * t + 2 < L by omega) (by omega)) d_LW_law_599 ?_
  refine lv_aload_n hx hb d_LW_law_600 rfl (lv_at hl 5 rfl) ?_
  refine lv_iload hx hb d_LW_law_601 (lv_at hl 1 rfl) ?_
  refine lv_iconst (v := 3) hx hb d_LW_law_603 (by decide) ?_
  refine lv_iadd hx hb d_LW_law_604 ?_
  refine va_sld hx hb hXs hbl hbA hS (sc_in (k := 3) (show 6 * t + 3 < L by omega) (by omega)) d_LW_law_605 ?_
  refine lv_aload_n hx hb d_LW_law_606 rfl (lv_at hl 5 rfl) ?_
  refine lv_iload hx hb d_LW_law_607 (lv_at hl 1 rfl) ?_
  refine lv_iconst (v := 4) hx hb d_LW_law_609 (by decide) ?_
  refine lv_iadd hx hb d_LW_law_610 ?_
  refine va_sld hx hb hXs hbl hbA hS (sc_in (k := 4) (show 6 * t + 4 < L by omega) (by omega)) d_LW_law_611 ?_
  obtain ⟨cB, hcB, hoB, hkB⟩ := xw_recv (r := 15) (i := 0) hK hX (by decide) rfl rfl
  refine xc_s (rest := []) (x_invV (argsL := [.int (xs ((nI (6 * t)) + (1 : Int32)).toNatClampNeg), .int (xs ((nI (6 * t)) + (2 : Int32)).toNatClampNeg), .int (xs ((nI (6 * t)) + (3 : Int32)).toNatClampNeg), .int (xs ((nI (6 * t)) + (4 : Int32)).toNatClampNeg)]) hx hb hown (hts _ w_714) (hts _ w_715) (hts _ w_716) (x_code (hts _ w_717)) ⟨by decide, by decide⟩ hcB hoB hkB rfl rfl rfl d_LW_law_612) (c_MO_put h0 (S_LW_put σ (xs ((nI (6 * t)) + (1 : Int32)).toNatClampNeg) (xs ((nI (6 * t)) + (2 : Int32)).toNatClampNeg) (xs ((nI (6 * t)) + (3 : Int32)).toNatClampNeg) (xs ((nI (6 * t)) + (4 : Int32)).toNatClampNeg)).2 (xs ((nI (6 * t)) + (1 : Int32)).toNatClampNeg) (xs ((nI (6 * t)) + (2 : Int32)).toNatClampNeg) (xs ((nI (6 * t)) + (3 : Int32)).toNatClampNeg) (xs ((nI (6 * t)) + (4 : Int32)).toNatClampNeg) (mok_kp (h.mok (by omega)) kp_put)) (xs_cw h0 hW0 m_717) (hts _ w_38) ⟨rfl, rfl, Nat.le_of_ble_eq_true rfl, Nat.le_of_ble_eq_true rfl⟩ (hl.1.trans hml.symm) (by rw [hb]; exact d_LW_law_612) (Nat.le_of_ble_eq_true rfl) ⟨by show _ ≤ 601024; omega, by show _ ≤ 7293034; omega⟩ hX hW0 hS (fun v σ1 H locs hM hX hS => ?_) (fun E x H1 locs1 hM => by cases hM)
  obtain ⟨ev, es⟩ := x_inl hM
  subst es
  subst ev
  refine lv_istore (lv' := [(6, .int ((S_MO_put (S_LW_put σ (xs ((nI (6 * t)) + (1 : Int32)).toNatClampNeg) (xs ((nI (6 * t)) + (2 : Int32)).toNatClampNeg) (xs ((nI (6 * t)) + (3 : Int32)).toNatClampNeg) (xs ((nI (6 * t)) + (4 : Int32)).toNatClampNeg)).2 (xs ((nI (6 * t)) + (1 : Int32)).toNatClampNeg) (xs ((nI (6 * t)) + (2 : Int32)).toNatClampNeg) (xs ((nI (6 * t)) + (3 : Int32)).toNatClampNeg) (xs ((nI (6 * t)) + (4 : Int32)).toNatClampNeg)).1)), (5, .int ((S_LW_put σ (xs ((nI (6 * t)) + (1 : Int32)).toNatClampNeg) (xs ((nI (6 * t)) + (2 : Int32)).toNatClampNeg) (xs ((nI (6 * t)) + (3 : Int32)).toNatClampNeg) (xs ((nI (6 * t)) + (4 : Int32)).toNatClampNeg)).1)), (4, .int (nI (6 * t))), (3, .ref (xB s + XA 31 0)), (2, .ref (xB s + XA 15 0)), (1, .ref (xB s + XA 0 0)), (0, .ref b)]) hx hb d_LW_law_615 hl (by decide) rfl (fun ls hl => ?_)
  refine lv_aload_n hx hb d_LW_law_617 rfl (lv_at hl 4 rfl) ?_
  obtain ⟨cB618, hcB618, hoB618, hkB618⟩ := xw_recv (r := 15) (i := 0) hK hX (by decide) rfl rfl
  refine xc_f (rest := []) (x_invV (argsL := []) hx hb hown (hts _ w_656) (hts _ w_657) (hts _ w_658) (x_code (hts _ w_659)) ⟨by decide, by decide⟩ hcB618 hoB618 hkB618 rfl rfl rfl d_LW_law_618) (c_MO_thrown h0 (S_MO_put (S_LW_put σ (xs ((nI (6 * t)) + (1 : Int32)).toNatClampNeg) (xs ((nI (6 * t)) + (2 : Int32)).toNatClampNeg) (xs ((nI (6 * t)) + (3 : Int32)).toNatClampNeg) (xs ((nI (6 * t)) + (4 : Int32)).toNatClampNeg)).2 (xs ((nI (6 * t)) + (1 : Int32)).toNatClampNeg) (xs ((nI (6 * t)) + (2 : Int32)).toNatClampNeg) (xs ((nI (6 * t)) + (3 : Int32)).toNatClampNeg) (xs ((nI (6 * t)) + (4 : Int32)).toNatClampNeg)).2) (xs_cw h0 hW0 m_659) (hts _ w_38) ⟨rfl, rfl, Nat.le_of_ble_eq_true rfl, Nat.le_of_ble_eq_true rfl⟩ (hl.1.trans hml.symm) (by rw [hb]; exact d_LW_law_618) (Nat.le_of_ble_eq_true rfl) ⟨by show _ ≤ 601024; omega, by show _ ≤ 7293034; omega⟩ hX ⟨hW0, xo_S hS⟩ ?_
  refine lv_iload hx hb d_LW_law_621 (lv_at hl 1 rfl) ?_
  refine lv_icmp_eq (tgt := 628) hx hb d_LW_law_623 (by decide) (fun _ => ?_) (fun c => absurd hR.2.1 c)
  refine lv_iload hx hb d_LW_law_628 (lv_at hl 1 rfl) ?_
  refine lv_if_ne (tgt := 645) hx hb d_LW_law_630 (by decide) (fun c0 => ?_) (fun c0 => ?_)
  · refine lv_goto (tgt := 1611) hx hb d_LW_law_645 (by decide) ?_
    refine W.widen (k := 127 + 9 * (t + 1)) (n := 14114 + 54 * (t + 1)) (by omega) (by omega) ?_
    refine lv_iinc (v := nI (6 * (t + 1))) (lv' := [(4, .int (nI (6 * (t + 1)))), (6, .int ((S_MO_put (S_LW_put σ (xs ((nI (6 * t)) + (1 : Int32)).toNatClampNeg) (xs ((nI (6 * t)) + (2 : Int32)).toNatClampNeg) (xs ((nI (6 * t)) + (3 : Int32)).toNatClampNeg) (xs ((nI (6 * t)) + (4 : Int32)).toNatClampNeg)).2 (xs ((nI (6 * t)) + (1 : Int32)).toNatClampNeg) (xs ((nI (6 * t)) + (2 : Int32)).toNatClampNeg) (xs ((nI (6 * t)) + (3 : Int32)).toNatClampNeg) (xs ((nI (6 * t)) + (4 : Int32)).toNatClampNeg)).1)), (5, .int ((S_LW_put σ (xs ((nI (6 * t)) + (1 : Int32)).toNatClampNeg) (xs ((nI (6 * t)) + (2 : Int32)).toNatClampNeg) (xs ((nI (6 * t)) + (3 : Int32)).toNatClampNeg) (xs ((nI (6 * t)) + (4 : Int32)).toNatClampNeg)).1)), (3, .ref (xB s + XA 31 0)), (2, .ref (xB s + XA 15 0)), (1, .ref (xB s + XA 0 0)), (0, .ref b)]) hx hb d_LW_law_1611 hl (k := 2) rfl (by show nI (6 * t) + nI 6 = _; rw [nI_add]; exact congrArg nI (by omega)) (by decide) rfl (fun ls hl => ?_)
    refine lv_goto (tgt := 23) hx hb d_LW_law_1614 (by decide) ?_
    exact ih _ _ _ ls hR.1 hX hS (lv_sub hl [0, 3, 4, 5, 6] rfl)
  · refine lv_aload_n hx hb d_LW_law_633 rfl (lv_at hl 3 rfl) ?_
    refine lv_iconst (v := 0) hx hb d_LW_law_634 (by decide) ?_
    refine xw_lald (r := 31) (i := 0) hx hb hK hX (by decide) 2 rfl rfl (j := 0) (pk_in 0 1 (by decide)) d_LW_law_635 ?_
    refine lv_iload hx hb d_LW_law_636 (lv_at hl 0 rfl) ?_
    refine lv_i2l hx hb d_LW_law_638 rfl ?_
    refine W.lcmp hx hb d_LW_law_639 ?_
    refine lv_if_eq (tgt := 645) hx hb d_LW_law_640 (by decide) (fun _ => ?_) (fun c => absurd ((lg_cmp_eq _ _).mpr (hR.2.2 c0)) c)
    refine lv_goto (tgt := 1611) hx hb d_LW_law_645 (by decide) ?_
    refine W.widen (k := 127 + 9 * (t + 1)) (n := 14114 + 54 * (t + 1)) (by omega) (by omega) ?_
    refine lv_iinc (v := nI (6 * (t + 1))) (lv' := [(4, .int (nI (6 * (t + 1)))), (6, .int ((S_MO_put (S_LW_put σ (xs ((nI (6 * t)) + (1 : Int32)).toNatClampNeg) (xs ((nI (6 * t)) + (2 : Int32)).toNatClampNeg) (xs ((nI (6 * t)) + (3 : Int32)).toNatClampNeg) (xs ((nI (6 * t)) + (4 : Int32)).toNatClampNeg)).2 (xs ((nI (6 * t)) + (1 : Int32)).toNatClampNeg) (xs ((nI (6 * t)) + (2 : Int32)).toNatClampNeg) (xs ((nI (6 * t)) + (3 : Int32)).toNatClampNeg) (xs ((nI (6 * t)) + (4 : Int32)).toNatClampNeg)).1)), (5, .int ((S_LW_put σ (xs ((nI (6 * t)) + (1 : Int32)).toNatClampNeg) (xs ((nI (6 * t)) + (2 : Int32)).toNatClampNeg) (xs ((nI (6 * t)) + (3 : Int32)).toNatClampNeg) (xs ((nI (6 * t)) + (4 : Int32)).toNatClampNeg)).1)), (3, .ref (xB s + XA 31 0)), (2, .ref (xB s + XA 15 0)), (1, .ref (xB s + XA 0 0)), (0, .ref b)]) hx hb d_LW_law_1611 hl (k := 2) rfl (by show nI (6 * t) + nI 6 = _; rw [nI_add]; exact congrArg nI (by omega)) (by decide) rfl (fun ls hl => ?_)
    refine lv_goto (tgt := 23) hx hb d_LW_law_1614 (by decide) ?_
    exact ih _ _ _ ls hR.1 hX hS (lv_sub hl [0, 3, 4, 5, 6] rfl)

set_option maxHeartbeats 8000000 in
set_option maxRecDepth 100000 in
theorem k_use {p : Program} {l : Launch} {e : Env} {s : State} {m : MethodId} {below : List Frame} {meth : Method} {c : Code} {b L : Nat} {xs : Nat → Int32} {D : va_G} {dA : Nat → ClassId} (h0 : XS0 l s #[Value.ref b] D dA) (C0 : lw_At p s m meth c b L xs) {t : Nat} (ht : t < 512) (hL : 6 * t + 6 ≤ L) (hL2 : L ≤ 3072) {σ : XS} (h : Rel t σ) {H : Heap} {locs : List Loc} (hX : XWs D dA s σ H) (hS : va_S (xAm s) s.heap H locs) {ls : Array Slot} (hl : lv_has ls 8 [(4, .int (nI (6 * t))), (3, .ref (xB s + XA 31 0)), (2, .ref (xB s + XA 15 0)), (1, .ref (xB s + XA 0 0)), (0, .ref b)])
    (ih : ∀ (σ' : XS) (H' : Heap) (locs' : List Loc) (ls' : Array Slot), Rel (t + 1) σ' → XWs D dA s σ' H' → va_S (xAm s) s.heap H' locs' → lv_has ls' 8 [(4, .int (nI (6 * (t + 1)))), (3, .ref (xB s + XA 31 0)), (2, .ref (xB s + XA 15 0)), (1, .ref (xB s + XA 0 0)), (0, .ref b)] → W p l e room_1 s m #[Value.ref b] below meth c H' locs' (127 + 9 * (t + 1)) (14114 + 54 * (t + 1)) (lw_Z below #[Value.ref b] s) (F0 m 23 ls' [])) :
    W p l e room_1 s m #[Value.ref b] below meth c H locs (127 + 9 * t) (14114 + 54 * t) (lw_Z below #[Value.ref b] s) (F0 m 648 ls []) := by
  obtain ⟨hx, hb, hr, hml, hown, htsL, hXs, hbl, hlocks, hgv⟩ := C0
  have hbA : ¬ xAm s b := Nat.not_le.mpr hbl
  have hW0 : s.WarmedH s.vm := State.WarmedH.refl s
  have hts := xs_w (args := #[Value.ref b]) h0 hW0
  have hK := xs_K h0 hW0
  refine lv_aload_n hx hb d_LW_law_648 rfl (lv_at hl 3 rfl) ?_
  refine lv_aload_n hx hb d_LW_law_649 rfl (lv_at hl 4 rfl) ?_
  refine lv_iload hx hb d_LW_law_650 (lv_at hl 0 rfl) ?_
  refine lv_iconst (v := 1) hx hb d_LW_law_652 (by decide) ?_
  refine lv_iadd hx hb d_LW_law_653 ?_
  refine va_sld hx hb hXs hbl hbA hS (sc_in (k := 1) (show 6 * t + 1 < L by omega) (by omega)) d_LW_law_654 ?_
  refine lv_aload_n hx hb d_LW_law_655 rfl (lv_at hl 4 rfl) ?_
  refine lv_iload hx hb d_LW_law_656 (lv_at hl 0 rfl) ?_
  refine lv_iconst (v := 2) hx hb d_LW_law_658 (by decide) ?_
  refine lv_iadd hx hb d_LW_law_659 ?_
  refine va_sld hx hb hXs hbl hbA hS (sc_in (k := 2) (show 6 * t + 2 < L by omega) (by omega)) d_LW_law_660 ?_
  refine lv_aload_n hx hb d_LW_law_661 rfl (lv_at hl 4 rfl) ?_
  refine lv_iload hx hb d_LW_law_662 (lv_at hl 0 rfl) ?_
  refine lv_iconst (v := 3) hx hb d_LW_law_664 (by decide) ?_
  refine lv_iadd hx hb d_LW_law_665 ?_
  refine va_sld hx hb hXs hbl hbA hS (sc_in (k := 3) (show 6 * t + 3 < L by omega) (by omega)) d_LW_law_666 ?_
  refine lv_aload_n hx hb d_LW_law_667 rfl (lv_at hl 4 rfl) ?_
  refine lv_iload hx hb d_LW_law_668 (lv_at hl 0 rfl) ?_
  refine lv_iconst (v := 4) hx hb d_LW_law_670 (by decide) ?_
  refine lv_iadd hx hb d_LW_law_671 ?_
  refine va_sld hx hb hXs hbl hbA hS (sc_in (k := 4) (show 6 * t + 4 < L by omega) (by omega)) d_LW_law_672 ?_
  refine lv_aload_n hx hb d_LW_law_673 rfl (lv_at hl 1 rfl) ?_
  refine xc_s (rest := []) (x_invS (argsL := [.ref (xB s + XA 0 0), .int (xs ((nI (6 * t)) + (1 : Int32)).toNatClampNeg), .int (xs ((nI (6 * t)) + (2 : Int32)).toNatClampNeg), .int (xs ((nI (6 * t)) + (3 : Int32)).toNatClampNeg), .int (xs ((nI (6 * t)) + (4 : Int32)).toNatClampNeg), .ref (xB s + XA 31 0)]) hx hb hown (hts _ w_403) (hts _ w_404) (hts _ w_33) (x_codeW (hts _ w_405)) ⟨by decide, by decide⟩ rfl rfl rfl d_LW_law_674) (c_LW_use h0 σ (xs ((nI (6 * t)) + (1 : Int32)).toNatClampNeg) (xs ((nI (6 * t)) + (2 : Int32)).toNatClampNeg) (xs ((nI (6 * t)) + (3 : Int32)).toNatClampNeg) (xs ((nI (6 * t)) + (4 : Int32)).toNatClampNeg) (h.xok (by omega))) (xs_cwW h0 hW0 m_405) (hts _ w_33) ⟨rfl, rfl, Nat.le_of_ble_eq_true rfl, Nat.le_of_ble_eq_true rfl⟩ (hl.1.trans hml.symm) (by rw [hb]; exact d_LW_law_674) (Nat.le_of_ble_eq_true rfl) ⟨by show _ ≤ 601024; omega, by show _ ≤ 7293034; omega⟩ hX hW0 hS (fun v σ1 H locs hM hX hS => ?_) (fun E x H1 locs1 hM => by cases hM)
  obtain ⟨ev, es⟩ := x_inl hM
  subst es
  subst ev
  have hR := r_use h ht (xs ((nI (6 * t)) + (1 : Int32)).toNatClampNeg) (xs ((nI (6 * t)) + (2 : Int32)).toNatClampNeg) (xs ((nI (6 * t)) + (3 : Int32)).toNatClampNeg) (xs ((nI (6 * t)) + (4 : Int32)).toNatClampNeg)
  refine lv_istore (lv' := [(5, .int ((S_LW_use σ (xs ((nI (6 * t)) + (1 : Int32)).toNatClampNeg) (xs ((nI (6 * t)) + (2 : Int32)).toNatClampNeg) (xs ((nI (6 * t)) + (3 : Int32)).toNatClampNeg) (xs ((nI (6 * t)) + (4 : Int32)).toNatClampNeg)).1)), (4, .int (nI (6 * t))), (3, .ref (xB s + XA 31 0)), (2, .ref (xB s + XA 15 0)), (1, .ref (xB s + XA 0 0)), (0, .ref b)]) hx hb d_LW_law_677 hl (by decide) rfl (fun ls hl => ?_)
  refine lv_aload_n hx hb d_LW_law_679 rfl (lv_at hl 3 rfl) ?_
  refine lv_aload_n hx hb d_LW_law_680 rfl (lv_at hl 5 rfl) ?_
  refine lv_iload hx hb d_LW_law_681 (lv_at hl 1 rfl) ?_
  refine lv_iconst (v := 1) hx hb d_LW_law_683 (by decide) ?_
  refine lv_iadd hx hb d_LW_law_684 ?_
  refine va_sld hx hb hXs hbl hbA hS (sc_in (k := 1) (show 6 * t + 1 < L by omega) (by omega)) d_LW_law_685 ?_
  refine lv_aload_n hx hb d_LW_law_686 rfl (lv_at hl 5 rfl) ?_
  refine lv_iload hx hb d_LW_law_687 (lv_at hl 1 rfl) ?_
  refine lv_iconst (v := 2) hx hb d_LW_law_689 (by decide) ?_
  refine lv_iadd hx hb d_LW_law_690 ?_
  refine va_sld hx hb hXs hbl hbA hS (sc_in (k := 2) (show 6 * t + 2 < L by omega) (by omega)) d_LW_law_691 ?_
  refine lv_aload_n hx hb d_LW_law_692 rfl (lv_at hl 5 rfl) ?_
  refine lv_iload hx hb d_LW_law_693 (lv_at hl 1 rfl) ?_
  refine lv_iconst (v := 3) hx hb d_LW_law_695 (by decide) ?_
  refine lv_iadd hx hb d_LW_law_696 ?_
  refine va_sld hx hb hXs hbl hbA hS (sc_in (k := 3) (show 6 * t + 3 < L by omega) (by omega)) d_LW_law_697 ?_
  refine lv_aload_n hx hb d_LW_law_698 rfl (lv_at hl 5 rfl) ?_
  refine lv_iload hx hb d_LW_law_699 (lv_at hl 1 rfl) ?_
  refine lv_iconst (v := 4) hx hb d_LW_law_701 (by decide) ?_
  refine lv_iadd hx hb d_LW_law_702 ?_
  refine va_sld hx hb hXs hbl hbA hS (sc_in (k := 4) (show 6 * t + 4 < L by omega) (by omega)) d_LW_law_703 ?_
  obtain ⟨cB, hcB, hoB, hkB⟩ := xw_recv (r := 15) (i := 0) hK hX (by decide) rfl rfl
  refine xc_s (rest := []) (x_invV (argsL := [.int (xs ((nI (6 * t)) + (1 : Int32)).toNatClampNeg), .int (xs ((nI (6 * t)) + (2 : Int32)).toNatClampNeg), .int (xs ((nI (6 * t)) + (3 : Int32)).toNatClampNeg), .int (xs ((nI (6 * t)) + (4 : Int32)).toNatClampNeg)]) hx hb hown (hts _ w_742) (hts _ w_743) (hts _ w_744) (x_code (hts _ w_745)) ⟨by decide, by decide⟩ hcB hoB hkB rfl rfl rfl d_LW_law_704) (c_MO_use h0 (S_LW_use σ (xs ((nI (6 * t)) + (1 : Int32)).toNatClampNeg) (xs ((nI (6 * t)) + (2 : Int32)).toNatClampNeg) (xs ((nI (6 * t)) + (3 : Int32)).toNatClampNeg) (xs ((nI (6 * t)) + (4 : Int32)).toNatClampNeg)).2 (xs ((nI (6 * t)) + (1 : Int32)).toNatClampNeg) (xs ((nI (6 * t)) + (2 : Int32)).toNatClampNeg) (xs ((nI (6 * t)) + (3 : Int32)).toNatClampNeg) (xs ((nI (6 * t)) + (4 : Int32)).toNatClampNeg) (mok_kp (h.mok (by omega)) kp_use)) (xs_cw h0 hW0 m_745) (hts _ w_38) ⟨rfl, rfl, Nat.le_of_ble_eq_true rfl, Nat.le_of_ble_eq_true rfl⟩ (hl.1.trans hml.symm) (by rw [hb]; exact d_LW_law_704) (Nat.le_of_ble_eq_true rfl) ⟨by show _ ≤ 601024; omega, by show _ ≤ 7293034; omega⟩ hX hW0 hS (fun v σ1 H locs hM hX hS => ?_) (fun E x H1 locs1 hM => by cases hM)
  obtain ⟨ev, es⟩ := x_inl hM
  subst es
  subst ev
  refine lv_istore (lv' := [(6, .int ((S_MO_use (S_LW_use σ (xs ((nI (6 * t)) + (1 : Int32)).toNatClampNeg) (xs ((nI (6 * t)) + (2 : Int32)).toNatClampNeg) (xs ((nI (6 * t)) + (3 : Int32)).toNatClampNeg) (xs ((nI (6 * t)) + (4 : Int32)).toNatClampNeg)).2 (xs ((nI (6 * t)) + (1 : Int32)).toNatClampNeg) (xs ((nI (6 * t)) + (2 : Int32)).toNatClampNeg) (xs ((nI (6 * t)) + (3 : Int32)).toNatClampNeg) (xs ((nI (6 * t)) + (4 : Int32)).toNatClampNeg)).1)), (5, .int ((S_LW_use σ (xs ((nI (6 * t)) + (1 : Int32)).toNatClampNeg) (xs ((nI (6 * t)) + (2 : Int32)).toNatClampNeg) (xs ((nI (6 * t)) + (3 : Int32)).toNatClampNeg) (xs ((nI (6 * t)) + (4 : Int32)).toNatClampNeg)).1)), (4, .int (nI (6 * t))), (3, .ref (xB s + XA 31 0)), (2, .ref (xB s + XA 15 0)), (1, .ref (xB s + XA 0 0)), (0, .ref b)]) hx hb d_LW_law_707 hl (by decide) rfl (fun ls hl => ?_)
  refine lv_aload_n hx hb d_LW_law_709 rfl (lv_at hl 4 rfl) ?_
  obtain ⟨cB710, hcB710, hoB710, hkB710⟩ := xw_recv (r := 15) (i := 0) hK hX (by decide) rfl rfl
  refine xc_f (rest := []) (x_invV (argsL := []) hx hb hown (hts _ w_656) (hts _ w_657) (hts _ w_658) (x_code (hts _ w_659)) ⟨by decide, by decide⟩ hcB710 hoB710 hkB710 rfl rfl rfl d_LW_law_710) (c_MO_thrown h0 (S_MO_use (S_LW_use σ (xs ((nI (6 * t)) + (1 : Int32)).toNatClampNeg) (xs ((nI (6 * t)) + (2 : Int32)).toNatClampNeg) (xs ((nI (6 * t)) + (3 : Int32)).toNatClampNeg) (xs ((nI (6 * t)) + (4 : Int32)).toNatClampNeg)).2 (xs ((nI (6 * t)) + (1 : Int32)).toNatClampNeg) (xs ((nI (6 * t)) + (2 : Int32)).toNatClampNeg) (xs ((nI (6 * t)) + (3 : Int32)).toNatClampNeg) (xs ((nI (6 * t)) + (4 : Int32)).toNatClampNeg)).2) (xs_cw h0 hW0 m_659) (hts _ w_38) ⟨rfl, rfl, Nat.le_of_ble_eq_true rfl, Nat.le_of_ble_eq_true rfl⟩ (hl.1.trans hml.symm) (by rw [hb]; exact d_LW_law_710) (Nat.le_of_ble_eq_true rfl) ⟨by show _ ≤ 601024; omega, by show _ ≤ 7293034; omega⟩ hX ⟨hW0, xo_S hS⟩ ?_
  refine lv_iload hx hb d_LW_law_713 (lv_at hl 1 rfl) ?_
  refine lv_icmp_eq (tgt := 720) hx hb d_LW_law_715 (by decide) (fun _ => ?_) (fun c => absurd hR.2.1 c)
  refine lv_iload hx hb d_LW_law_720 (lv_at hl 1 rfl) ?_
  refine lv_if_ne (tgt := 737) hx hb d_LW_law_722 (by decide) (fun c0 => ?_) (fun c0 => ?_)
  · refine lv_goto (tgt := 1611) hx hb d_LW_law_737 (by decide) ?_
    refine W.widen (k := 127 + 9 * (t + 1)) (n := 14114 + 54 * (t + 1)) (by omega) (by omega) ?_
    refine lv_iinc (v := nI (6 * (t + 1))) (lv' := [(4, .int (nI (6 * (t + 1)))), (6, .int ((S_MO_use (S_LW_use σ (xs ((nI (6 * t)) + (1 : Int32)).toNatClampNeg) (xs ((nI (6 * t)) + (2 : Int32)).toNatClampNeg) (xs ((nI (6 * t)) + (3 : Int32)).toNatClampNeg) (xs ((nI (6 * t)) + (4 : Int32)).toNatClampNeg)).2 (xs ((nI (6 * t)) + (1 : Int32)).toNatClampNeg) (xs ((nI (6 * t)) + (2 : Int32)).toNatClampNeg) (xs ((nI (6 * t)) + (3 : Int32)).toNatClampNeg) (xs ((nI (6 * t)) + (4 : Int32)).toNatClampNeg)).1)), (5, .int ((S_LW_use σ (xs ((nI (6 * t)) + (1 : Int32)).toNatClampNeg) (xs ((nI (6 * t)) + (2 : Int32)).toNatClampNeg) (xs ((nI (6 * t)) + (3 : Int32)).toNatClampNeg) (xs ((nI (6 * t)) + (4 : Int32)).toNatClampNeg)).1)), (3, .ref (xB s + XA 31 0)), (2, .ref (xB s + XA 15 0)), (1, .ref (xB s + XA 0 0)), (0, .ref b)]) hx hb d_LW_law_1611 hl (k := 2) rfl (by show nI (6 * t) + nI 6 = _; rw [nI_add]; exact congrArg nI (by omega)) (by decide) rfl (fun ls hl => ?_)
    refine lv_goto (tgt := 23) hx hb d_LW_law_1614 (by decide) ?_
    exact ih _ _ _ ls hR.1 hX hS (lv_sub hl [0, 3, 4, 5, 6] rfl)
  · refine lv_aload_n hx hb d_LW_law_725 rfl (lv_at hl 3 rfl) ?_
    refine lv_iconst (v := 0) hx hb d_LW_law_726 (by decide) ?_
    refine xw_lald (r := 31) (i := 0) hx hb hK hX (by decide) 2 rfl rfl (j := 0) (pk_in 0 1 (by decide)) d_LW_law_727 ?_
    refine lv_iload hx hb d_LW_law_728 (lv_at hl 0 rfl) ?_
    refine lv_i2l hx hb d_LW_law_730 rfl ?_
    refine W.lcmp hx hb d_LW_law_731 ?_
    refine lv_if_eq (tgt := 737) hx hb d_LW_law_732 (by decide) (fun _ => ?_) (fun c => absurd ((lg_cmp_eq _ _).mpr (hR.2.2 c0)) c)
    refine lv_goto (tgt := 1611) hx hb d_LW_law_737 (by decide) ?_
    refine W.widen (k := 127 + 9 * (t + 1)) (n := 14114 + 54 * (t + 1)) (by omega) (by omega) ?_
    refine lv_iinc (v := nI (6 * (t + 1))) (lv' := [(4, .int (nI (6 * (t + 1)))), (6, .int ((S_MO_use (S_LW_use σ (xs ((nI (6 * t)) + (1 : Int32)).toNatClampNeg) (xs ((nI (6 * t)) + (2 : Int32)).toNatClampNeg) (xs ((nI (6 * t)) + (3 : Int32)).toNatClampNeg) (xs ((nI (6 * t)) + (4 : Int32)).toNatClampNeg)).2 (xs ((nI (6 * t)) + (1 : Int32)).toNatClampNeg) (xs ((nI (6 * t)) + (2 : Int32)).toNatClampNeg) (xs ((nI (6 * t)) + (3 : Int32)).toNatClampNeg) (xs ((nI (6 * t)) + (4 : Int32)).toNatClampNeg)).1)), (5, .int ((S_LW_use σ (xs ((nI (6 * t)) + (1 : Int32)).toNatClampNeg) (xs ((nI (6 * t)) + (2 : Int32)).toNatClampNeg) (xs ((nI (6 * t)) + (3 : Int32)).toNatClampNeg) (xs ((nI (6 * t)) + (4 : Int32)).toNatClampNeg)).1)), (3, .ref (xB s + XA 31 0)), (2, .ref (xB s + XA 15 0)), (1, .ref (xB s + XA 0 0)), (0, .ref b)]) hx hb d_LW_law_1611 hl (k := 2) rfl (by show nI (6 * t) + nI 6 = _; rw [nI_add]; exact congrArg nI (by omega)) (by decide) rfl (fun ls hl => ?_)
    refine lv_goto (tgt := 23) hx hb d_LW_law_1614 (by decide) ?_
    exact ih _ _ _ ls hR.1 hX hS (lv_sub hl [0, 3, 4, 5, 6] rfl)

set_option maxHeartbeats 8000000 in
set_option maxRecDepth 100000 in
theorem k_replace {p : Program} {l : Launch} {e : Env} {s : State} {m : MethodId} {below : List Frame} {meth : Method} {c : Code} {b L : Nat} {xs : Nat → Int32} {D : va_G} {dA : Nat → ClassId} (h0 : XS0 l s #[Value.ref b] D dA) (C0 : lw_At p s m meth c b L xs) {t : Nat} (ht : t < 512) (hL : 6 * t + 6 ≤ L) (hL2 : L ≤ 3072) {σ : XS} (h : Rel t σ) {H : Heap} {locs : List Loc} (hX : XWs D dA s σ H) (hS : va_S (xAm s) s.heap H locs) {ls : Array Slot} (hl : lv_has ls 8 [(4, .int (nI (6 * t))), (3, .ref (xB s + XA 31 0)), (2, .ref (xB s + XA 15 0)), (1, .ref (xB s + XA 0 0)), (0, .ref b)])
    (ih : ∀ (σ' : XS) (H' : Heap) (locs' : List Loc) (ls' : Array Slot), Rel (t + 1) σ' → XWs D dA s σ' H' → va_S (xAm s) s.heap H' locs' → lv_has ls' 8 [(4, .int (nI (6 * (t + 1)))), (3, .ref (xB s + XA 31 0)), (2, .ref (xB s + XA 15 0)), (1, .ref (xB s + XA 0 0)), (0, .ref b)] → W p l e room_1 s m #[Value.ref b] below meth c H' locs' (127 + 9 * (t + 1)) (14114 + 54 * (t + 1)) (lw_Z below #[Value.ref b] s) (F0 m 23 ls' [])) :
    W p l e room_1 s m #[Value.ref b] below meth c H locs (127 + 9 * t) (14114 + 54 * t) (lw_Z below #[Value.ref b] s) (F0 m 740 ls []) := by
  obtain ⟨hx, hb, hr, hml, hown, htsL, hXs, hbl, hlocks, hgv⟩ := C0
  have hbA : ¬ xAm s b := Nat.not_le.mpr hbl
  have hW0 : s.WarmedH s.vm := State.WarmedH.refl s
  have hts := xs_w (args := #[Value.ref b]) h0 hW0
  have hK := xs_K h0 hW0
  refine lv_aload_n hx hb d_LW_law_740 rfl (lv_at hl 3 rfl) ?_
  refine lv_aload_n hx hb d_LW_law_741 rfl (lv_at hl 4 rfl) ?_
  refine lv_iload hx hb d_LW_law_742 (lv_at hl 0 rfl) ?_
  refine lv_iconst (v := 1) hx hb d_LW_law_744 (by decide) ?_
  refine lv_iadd hx hb d_LW_law_745 ?_
  refine va_sld hx hb hXs hbl hbA hS (sc_in (k := 1) (show 6 * t + 1 < L by omega) (by omega)) d_LW_law_746 ?_
  refine lv_aload_n hx hb d_LW_law_747 rfl (lv_at hl 1 rfl) ?_
  refine xc_s (rest := []) (x_invS (argsL := [.ref (xB s + XA 0 0), .int (xs ((nI (6 * t)) + (1 : Int32)).toNatClampNeg), .ref (xB s + XA 31 0)]) hx hb hown (hts _ w_414) (hts _ w_415) (hts _ w_33) (x_codeW (hts _ w_416)) ⟨by decide, by decide⟩ rfl rfl rfl d_LW_law_748) (c_LW_replace h0 σ (xs ((nI (6 * t)) + (1 : Int32)).toNatClampNeg) (h.xok (by omega))) (xs_cwW h0 hW0 m_416) (hts _ w_33) ⟨rfl, rfl, Nat.le_of_ble_eq_true rfl, Nat.le_of_ble_eq_true rfl⟩ (hl.1.trans hml.symm) (by rw [hb]; exact d_LW_law_748) (Nat.le_of_ble_eq_true rfl) ⟨by show _ ≤ 601024; omega, by show _ ≤ 7293034; omega⟩ hX hW0 hS (fun v σ1 H locs hM hX hS => ?_) (fun E x H1 locs1 hM => by cases hM)
  obtain ⟨ev, es⟩ := x_inl hM
  subst es
  subst ev
  have hR := r_replace h ht (xs ((nI (6 * t)) + (1 : Int32)).toNatClampNeg)
  refine lv_istore (lv' := [(5, .int ((S_LW_replace σ (xs ((nI (6 * t)) + (1 : Int32)).toNatClampNeg)).1)), (4, .int (nI (6 * t))), (3, .ref (xB s + XA 31 0)), (2, .ref (xB s + XA 15 0)), (1, .ref (xB s + XA 0 0)), (0, .ref b)]) hx hb d_LW_law_751 hl (by decide) rfl (fun ls hl => ?_)
  refine lv_aload_n hx hb d_LW_law_753 rfl (lv_at hl 3 rfl) ?_
  refine lv_aload_n hx hb d_LW_law_754 rfl (lv_at hl 5 rfl) ?_
  refine lv_iload hx hb d_LW_law_755 (lv_at hl 1 rfl) ?_
  refine lv_iconst (v := 1) hx hb d_LW_law_757 (by decide) ?_
  refine lv_iadd hx hb d_LW_law_758 ?_
  refine va_sld hx hb hXs hbl hbA hS (sc_in (k := 1) (show 6 * t + 1 < L by omega) (by omega)) d_LW_law_759 ?_
  obtain ⟨cB, hcB, hoB, hkB⟩ := xw_recv (r := 15) (i := 0) hK hX (by decide) rfl rfl
  refine xc_s (rest := []) (x_invV (argsL := [.int (xs ((nI (6 * t)) + (1 : Int32)).toNatClampNeg)]) hx hb hown (hts _ w_746) (hts _ w_747) (hts _ w_748) (x_code (hts _ w_749)) ⟨by decide, by decide⟩ hcB hoB hkB rfl rfl rfl d_LW_law_760) (c_MO_replace h0 (S_LW_replace σ (xs ((nI (6 * t)) + (1 : Int32)).toNatClampNeg)).2 (xs ((nI (6 * t)) + (1 : Int32)).toNatClampNeg) (mok_kp (h.mok (by omega)) kp_replace)) (xs_cw h0 hW0 m_749) (hts _ w_38) ⟨rfl, rfl, Nat.le_of_ble_eq_true rfl, Nat.le_of_ble_eq_true rfl⟩ (hl.1.trans hml.symm) (by rw [hb]; exact d_LW_law_760) (Nat.le_of_ble_eq_true rfl) ⟨by show _ ≤ 601024; omega, by show _ ≤ 7293034; omega⟩ hX hW0 hS (fun v σ1 H locs hM hX hS => ?_) (fun E x H1 locs1 hM => by cases hM)
  obtain ⟨ev, es⟩ := x_inl hM
  subst es
  subst ev
  refine lv_istore (lv' := [(6, .int ((S_MO_replace (S_LW_replace σ (xs ((nI (6 * t)) + (1 : Int32)).toNatClampNeg)).2 (xs ((nI (6 * t)) + (1 : Int32)).toNatClampNeg)).1)), (5, .int ((S_LW_replace σ (xs ((nI (6 * t)) + (1 : Int32)).toNatClampNeg)).1)), (4, .int (nI (6 * t))), (3, .ref (xB s + XA 31 0)), (2, .ref (xB s + XA 15 0)), (1, .ref (xB s + XA 0 0)), (0, .ref b)]) hx hb d_LW_law_763 hl (by decide) rfl (fun ls hl => ?_)
  refine lv_aload_n hx hb d_LW_law_765 rfl (lv_at hl 4 rfl) ?_
  obtain ⟨cB766, hcB766, hoB766, hkB766⟩ := xw_recv (r := 15) (i := 0) hK hX (by decide) rfl rfl
  refine xc_f (rest := []) (x_invV (argsL := []) hx hb hown (hts _ w_656) (hts _ w_657) (hts _ w_658) (x_code (hts _ w_659)) ⟨by decide, by decide⟩ hcB766 hoB766 hkB766 rfl rfl rfl d_LW_law_766) (c_MO_thrown h0 (S_MO_replace (S_LW_replace σ (xs ((nI (6 * t)) + (1 : Int32)).toNatClampNeg)).2 (xs ((nI (6 * t)) + (1 : Int32)).toNatClampNeg)).2) (xs_cw h0 hW0 m_659) (hts _ w_38) ⟨rfl, rfl, Nat.le_of_ble_eq_true rfl, Nat.le_of_ble_eq_true rfl⟩ (hl.1.trans hml.symm) (by rw [hb]; exact d_LW_law_766) (Nat.le_of_ble_eq_true rfl) ⟨by show _ ≤ 601024; omega, by show _ ≤ 7293034; omega⟩ hX ⟨hW0, xo_S hS⟩ ?_
  refine lv_iload hx hb d_LW_law_769 (lv_at hl 1 rfl) ?_
  refine lv_icmp_eq (tgt := 776) hx hb d_LW_law_771 (by decide) (fun _ => ?_) (fun c => absurd hR.2.1 c)
  refine lv_iload hx hb d_LW_law_776 (lv_at hl 1 rfl) ?_
  refine lv_if_ne (tgt := 793) hx hb d_LW_law_778 (by decide) (fun c0 => ?_) (fun c0 => ?_)
  · refine lv_goto (tgt := 1611) hx hb d_LW_law_793 (by decide) ?_
    refine W.widen (k := 127 + 9 * (t + 1)) (n := 14114 + 54 * (t + 1)) (by omega) (by omega) ?_
    refine lv_iinc (v := nI (6 * (t + 1))) (lv' := [(4, .int (nI (6 * (t + 1)))), (6, .int ((S_MO_replace (S_LW_replace σ (xs ((nI (6 * t)) + (1 : Int32)).toNatClampNeg)).2 (xs ((nI (6 * t)) + (1 : Int32)).toNatClampNeg)).1)), (5, .int ((S_LW_replace σ (xs ((nI (6 * t)) + (1 : Int32)).toNatClampNeg)).1)), (3, .ref (xB s + XA 31 0)), (2, .ref (xB s + XA 15 0)), (1, .ref (xB s + XA 0 0)), (0, .ref b)]) hx hb d_LW_law_1611 hl (k := 2) rfl (by show nI (6 * t) + nI 6 = _; rw [nI_add]; exact congrArg nI (by omega)) (by decide) rfl (fun ls hl => ?_)
    refine lv_goto (tgt := 23) hx hb d_LW_law_1614 (by decide) ?_
    exact ih _ _ _ ls hR.1 hX hS (lv_sub hl [0, 3, 4, 5, 6] rfl)
  · refine lv_aload_n hx hb d_LW_law_781 rfl (lv_at hl 3 rfl) ?_
    refine lv_iconst (v := 0) hx hb d_LW_law_782 (by decide) ?_
    refine xw_lald (r := 31) (i := 0) hx hb hK hX (by decide) 2 rfl rfl (j := 0) (pk_in 0 1 (by decide)) d_LW_law_783 ?_
    refine lv_iload hx hb d_LW_law_784 (lv_at hl 0 rfl) ?_
    refine lv_i2l hx hb d_LW_law_786 rfl ?_
    refine W.lcmp hx hb d_LW_law_787 ?_
    refine lv_if_eq (tgt := 793) hx hb d_LW_law_788 (by decide) (fun _ => ?_) (fun c => absurd ((lg_cmp_eq _ _).mpr (hR.2.2 c0)) c)
    refine lv_goto (tgt := 1611) hx hb d_LW_law_793 (by decide) ?_
    refine W.widen (k := 127 + 9 * (t + 1)) (n := 14114 + 54 * (t + 1)) (by omega) (by omega) ?_
    refine lv_iinc (v := nI (6 * (t + 1))) (lv' := [(4, .int (nI (6 * (t + 1)))), (6, .int ((S_MO_replace (S_LW_replace σ (xs ((nI (6 * t)) + (1 : Int32)).toNatClampNeg)).2 (xs ((nI (6 * t)) + (1 : Int32)).toNatClampNeg)).1)), (5, .int ((S_LW_replace σ (xs ((nI (6 * t)) + (1 : Int32)).toNatClampNeg)).1)), (3, .ref (xB s + XA 31 0)), (2, .ref (xB s + XA 15 0)), (1, .ref (xB s + XA 0 0)), (0, .ref b)]) hx hb d_LW_law_1611 hl (k := 2) rfl (by show nI (6 * t) + nI 6 = _; rw [nI_add]; exact congrArg nI (by omega)) (by decide) rfl (fun ls hl => ?_)
    refine lv_goto (tgt := 23) hx hb d_LW_law_1614 (by decide) ?_
    exact ih _ _ _ ls hR.1 hX hS (lv_sub hl [0, 3, 4, 5, 6] rfl)

set_option maxHeartbeats 8000000 in
set_option maxRecDepth 100000 in
theorem k_swap {p : Program} {l : Launch} {e : Env} {s : State} {m : MethodId} {below : List Frame} {meth : Method} {c : Code} {b L : Nat} {xs : Nat → Int32} {D : va_G} {dA : Nat → ClassId} (h0 : XS0 l s #[Value.ref b] D dA) (C0 : lw_At p s m meth c b L xs) {t : Nat} (ht : t < 512) (hL : 6 * t + 6 ≤ L) (hL2 : L ≤ 3072) {σ : XS} (h : Rel t σ) {H : Heap} {locs : List Loc} (hX : XWs D dA s σ H) (hS : va_S (xAm s) s.heap H locs) {ls : Array Slot} (hl : lv_has ls 8 [(4, .int (nI (6 * t))), (3, .ref (xB s + XA 31 0)), (2, .ref (xB s + XA 15 0)), (1, .ref (xB s + XA 0 0)), (0, .ref b)])
    (ih : ∀ (σ' : XS) (H' : Heap) (locs' : List Loc) (ls' : Array Slot), Rel (t + 1) σ' → XWs D dA s σ' H' → va_S (xAm s) s.heap H' locs' → lv_has ls' 8 [(4, .int (nI (6 * (t + 1)))), (3, .ref (xB s + XA 31 0)), (2, .ref (xB s + XA 15 0)), (1, .ref (xB s + XA 0 0)), (0, .ref b)] → W p l e room_1 s m #[Value.ref b] below meth c H' locs' (127 + 9 * (t + 1)) (14114 + 54 * (t + 1)) (lw_Z below #[Value.ref b] s) (F0 m 23 ls' [])) :
    W p l e room_1 s m #[Value.ref b] below meth c H locs (127 + 9 * t) (14114 + 54 * t) (lw_Z below #[Value.ref b] s) (F0 m 796 ls []) := by
  obtain ⟨hx, hb, hr, hml, hown, htsL, hXs, hbl, hlocks, hgv⟩ := C0
  have hbA : ¬ xAm s b := Nat.not_le.mpr hbl
  have hW0 : s.WarmedH s.vm := State.WarmedH.refl s
  have hts := xs_w (args := #[Value.ref b]) h0 hW0
  have hK := xs_K h0 hW0
  refine lv_aload_n hx hb d_LW_law_796 rfl (lv_at hl 3 rfl) ?_
  refine lv_aload_n hx hb d_LW_law_797 rfl (lv_at hl 4 rfl) ?_
  refine lv_iload hx hb d_LW_law_798 (lv_at hl 0 rfl) ?_
  refine lv_iconst (v := 1) hx hb d_LW_law_800 (by decide) ?_
  refine lv_iadd hx hb d_LW_law_801 ?_
  refine va_sld hx hb hXs hbl hbA hS (sc_in (k := 1) (show 6 * t + 1 < L by omega) (by omega)) d_LW_law_802 ?_
  refine lv_aload_n hx hb d_LW_law_803 rfl (lv_at hl 4 rfl) ?_
  refine lv_iload hx hb d_LW_law_804 (lv_at hl 0 rfl) ?_
  refine lv_iconst (v := 2) hx hb d_LW_law_806 (by decide) ?_
  refine lv_iadd hx hb d_LW_law_807 ?_
  refine va_sld hx hb hXs hbl hbA hS (sc_in (k := 2) (show 6 * t + 2 < L by omega) (by omega)) d_LW_law_808 ?_
  refine lv_aload_n hx hb d_LW_law_809 rfl (lv_at hl 4 rfl) ?_
  refine lv_iload hx hb d_LW_law_810 (lv_at hl 0 rfl) ?_
  refine lv_iconst (v := 3) hx hb d_LW_law_812 (by decide) ?_
  refine lv_iadd hx hb d_LW_law_813 ?_
  refine va_sld hx hb hXs hbl hbA hS (sc_in (k := 3) (show 6 * t + 3 < L by omega) (by omega)) d_LW_law_814 ?_
  refine lv_aload_n hx hb d_LW_law_815 rfl (lv_at hl 4 rfl) ?_
  refine lv_iload hx hb d_LW_law_816 (lv_at hl 0 rfl) ?_
  refine lv_iconst (v := 4) hx hb d_LW_law_818 (by decide) ?_
  refine lv_iadd hx hb d_LW_law_819 ?_
  refine va_sld hx hb hXs hbl hbA hS (sc_in (k := 4) (show 6 * t + 4 < L by omega) (by omega)) d_LW_law_820 ?_
  refine lv_aload_n hx hb d_LW_law_821 rfl (lv_at hl 4 rfl) ?_
  refine lv_iload hx hb d_LW_law_822 (lv_at hl 0 rfl) ?_
  refine lv_iconst (v := 5) hx hb d_LW_law_824 (by decide) ?_
  refine lv_iadd hx hb d_LW_law_825 ?_
  refine va_sld hx hb hXs hbl hbA hS (sc_in (k := 5) (show 6 * t + 5 < L by omega) (by omega)) d_LW_law_826 ?_
  refine xc_s (rest := []) (x_invS (argsL := [.ref (xB s + XA 0 0), .int (xs ((nI (6 * t)) + (1 : Int32)).toNatClampNeg), .int (xs ((nI (6 * t)) + (2 : Int32)).toNatClampNeg), .int (xs ((nI (6 * t)) + (3 : Int32)).toNatClampNeg), .int (xs ((nI (6 * t)) + (4 : Int32)).toNatClampNeg), .int (xs ((nI (6 * t)) + (5 : Int32)).toNatClampNeg)]) hx hb hown (hts _ w_431) (hts _ w_432) (hts _ w_33) (x_codeW (hts _ w_433)) ⟨by decide, by decide⟩ rfl rfl rfl d_LW_law_827) (c_LW_swap h0 σ (xs ((nI (6 * t)) + (1 : Int32)).toNatClampNeg) (xs ((nI (6 * t)) + (2 : Int32)).toNatClampNeg) (xs ((nI (6 * t)) + (3 : Int32)).toNatClampNeg) (xs ((nI (6 * t)) + (4 : Int32)).toNatClampNeg) (xs ((nI (6 * t)) + (5 : Int32)).toNatClampNeg) (h.xok (by omega))) (xs_cwW h0 hW0 m_433) (hts _ w_33) ⟨rfl, rfl, Nat.le_of_ble_eq_true rfl, Nat.le_of_ble_eq_true rfl⟩ (hl.1.trans hml.symm) (by rw [hb]; exact d_LW_law_827) (Nat.le_of_ble_eq_true rfl) ⟨by show _ ≤ 601024; omega, by show _ ≤ 7293034; omega⟩ hX hW0 hS (fun v σ1 H locs hM hX hS => ?_) (fun E x H1 locs1 hM => by cases hM)
  obtain ⟨ev, es⟩ := x_inl hM
  subst es
  subst ev
  have hR := r_swap h ht (xs ((nI (6 * t)) + (1 : Int32)).toNatClampNeg) (xs ((nI (6 * t)) + (2 : Int32)).toNatClampNeg) (xs ((nI (6 * t)) + (3 : Int32)).toNatClampNeg) (xs ((nI (6 * t)) + (4 : Int32)).toNatClampNeg) (xs ((nI (6 * t)) + (5 : Int32)).toNatClampNeg)
  refine lv_istore (lv' := [(5, .int ((S_LW_swap σ (xs ((nI (6 * t)) + (1 : Int32)).toNatClampNeg) (xs ((nI (6 * t)) + (2 : Int32)).toNatClampNeg) (xs ((nI (6 * t)) + (3 : Int32)).toNatClampNeg) (xs ((nI (6 * t)) + (4 : Int32)).toNatClampNeg) (xs ((nI (6 * t)) + (5 : Int32)).toNatClampNeg)).1)), (4, .int (nI (6 * t))), (3, .ref (xB s + XA 31 0)), (2, .ref (xB s + XA 15 0)), (1, .ref (xB s + XA 0 0)), (0, .ref b)]) hx hb d_LW_law_830 hl (by decide) rfl (fun ls hl => ?_)
  refine lv_aload_n hx hb d_LW_law_832 rfl (lv_at hl 3 rfl) ?_
  refine lv_aload_n hx hb d_LW_law_833 rfl (lv_at hl 5 rfl) ?_
  refine lv_iload hx hb d_LW_law_834 (lv_at hl 1 rfl) ?_
  refine lv_iconst (v := 1) hx hb d_LW_law_836 (by decide) ?_
  refine lv_iadd hx hb d_LW_law_837 ?_
  refine va_sld hx hb hXs hbl hbA hS (sc_in (k := 1) (show 6 * t + 1 < L by omega) (by omega)) d_LW_law_838 ?_
  refine lv_aload_n hx hb d_LW_law_839 rfl (lv_at hl 5 rfl) ?_
  refine lv_iload hx hb d_LW_law_840 (lv_at hl 1 rfl) ?_
  refine lv_iconst (v := 2) hx hb d_LW_law_842 (by decide) ?_
  refine lv_iadd hx hb d_LW_law_843 ?_
  refine va_sld hx hb hXs hbl hbA hS (sc_in (k := 2) (show 6 * t + 2 < L by omega) (by omega)) d_LW_law_844 ?_
  refine lv_aload_n hx hb d_LW_law_845 rfl (lv_at hl 5 rfl) ?_
  refine lv_iload hx hb d_LW_law_846 (lv_at hl 1 rfl) ?_
  refine lv_iconst (v := 3) hx hb d_LW_law_848 (by decide) ?_
  refine lv_iadd hx hb d_LW_law_849 ?_
  refine va_sld hx hb hXs hbl hbA hS (sc_in (k := 3) (show 6 * t + 3 < L by omega) (by omega)) d_LW_law_850 ?_
  refine lv_aload_n hx hb d_LW_law_851 rfl (lv_at hl 5 rfl) ?_
  refine lv_iload hx hb d_LW_law_852 (lv_at hl 1 rfl) ?_
  refine lv_iconst (v := 4) hx hb d_LW_law_854 (by decide) ?_
  refine lv_iadd hx hb d_LW_law_855 ?_
  refine va_sld hx hb hXs hbl hbA hS (sc_in (k := 4) (show 6 * t + 4 < L by omega) (by omega)) d_LW_law_856 ?_
  refine lv_aload_n hx hb d_LW_law_857 rfl (lv_at hl 5 rfl) ?_
  refine lv_iload hx hb d_LW_law_858 (lv_at hl 1 rfl) ?_
  refine lv_iconst (v := 5) hx hb d_LW_law_860 (by decide) ?_
  refine lv_iadd hx hb d_LW_law_861 ?_
  refine va_sld hx hb hXs hbl hbA hS (sc_in (k := 5) (show 6 * t + 5 < L by omega) (by omega)) d_LW_law_862 ?_
  obtain ⟨cB, hcB, hoB, hkB⟩ := xw_recv (r := 15) (i := 0) hK hX (by decide) rfl rfl
  refine xc_s (rest := []) (x_invV (argsL := [.int (xs ((nI (6 * t)) + (1 : Int32)).toNatClampNeg), .int (xs ((nI (6 * t)) + (2 : Int32)).toNatClampNeg), .int (xs ((nI (6 * t)) + (3 : Int32)).toNatClampNeg), .int (xs ((nI (6 * t)) + (4 : Int32)).toNatClampNeg), .int (xs ((nI (6 * t)) + (5 : Int32)).toNatClampNeg)]) hx hb hown (hts _ w_754) (hts _ w_755) (hts _ w_756) (x_code (hts _ w_757)) ⟨by decide, by decide⟩ hcB hoB hkB rfl rfl rfl d_LW_law_863) (c_MO_swap h0 (S_LW_swap σ (xs ((nI (6 * t)) + (1 : Int32)).toNatClampNeg) (xs ((nI (6 * t)) + (2 : Int32)).toNatClampNeg) (xs ((nI (6 * t)) + (3 : Int32)).toNatClampNeg) (xs ((nI (6 * t)) + (4 : Int32)).toNatClampNeg) (xs ((nI (6 * t)) + (5 : Int32)).toNatClampNeg)).2 (xs ((nI (6 * t)) + (1 : Int32)).toNatClampNeg) (xs ((nI (6 * t)) + (2 : Int32)).toNatClampNeg) (xs ((nI (6 * t)) + (3 : Int32)).toNatClampNeg) (xs ((nI (6 * t)) + (4 : Int32)).toNatClampNeg) (xs ((nI (6 * t)) + (5 : Int32)).toNatClampNeg) (mok_kp (h.mok (by omega)) kp_swap)) (xs_cw h0 hW0 m_757) (hts _ w_38) ⟨rfl, rfl, Nat.le_of_ble_eq_true rfl, Nat.le_of_ble_eq_true rfl⟩ (hl.1.trans hml.symm) (by rw [hb]; exact d_LW_law_863) (Nat.le_of_ble_eq_true rfl) ⟨by show _ ≤ 601024; omega, by show _ ≤ 7293034; omega⟩ hX hW0 hS (fun v σ1 H locs hM hX hS => ?_) (fun E x H1 locs1 hM => by cases hM)
  obtain ⟨ev, es⟩ := x_inl hM
  subst es
  refine lv_aload_n hx hb d_LW_law_866 rfl (lv_at hl 3 rfl) ?_
  obtain ⟨cB867, hcB867, hoB867, hkB867⟩ := xw_recv (r := 15) (i := 0) hK hX (by decide) rfl rfl
  refine xc_f (rest := []) (x_invV (argsL := []) hx hb hown (hts _ w_656) (hts _ w_657) (hts _ w_658) (x_code (hts _ w_659)) ⟨by decide, by decide⟩ hcB867 hoB867 hkB867 rfl rfl rfl d_LW_law_867) (c_MO_thrown h0 (S_MO_swap (S_LW_swap σ (xs ((nI (6 * t)) + (1 : Int32)).toNatClampNeg) (xs ((nI (6 * t)) + (2 : Int32)).toNatClampNeg) (xs ((nI (6 * t)) + (3 : Int32)).toNatClampNeg) (xs ((nI (6 * t)) + (4 : Int32)).toNatClampNeg) (xs ((nI (6 * t)) + (5 : Int32)).toNatClampNeg)).2 (xs ((nI (6 * t)) + (1 : Int32)).toNatClampNeg) (xs ((nI (6 * t)) + (2 : Int32)).toNatClampNeg) (xs ((nI (6 * t)) + (3 : Int32)).toNatClampNeg) (xs ((nI (6 * t)) + (4 : Int32)).toNatClampNeg) (xs ((nI (6 * t)) + (5 : Int32)).toNatClampNeg)).2) (xs_cw h0 hW0 m_659) (hts _ w_38) ⟨rfl, rfl, Nat.le_of_ble_eq_true rfl, Nat.le_of_ble_eq_true rfl⟩ (hl.1.trans hml.symm) (by rw [hb]; exact d_LW_law_867) (Nat.le_of_ble_eq_true rfl) ⟨by show _ ≤ 601024; omega, by show _ ≤ 7293034; omega⟩ hX ⟨hW0, xo_S hS⟩ ?_
  refine lv_iload hx hb d_LW_law_870 (lv_at hl 0 rfl) ?_
  refine lv_icmp_eq (tgt := 877) hx hb d_LW_law_872 (by decide) (fun _ => ?_) (fun c => absurd hR.2 c)
  refine lv_goto (tgt := 1611) hx hb d_LW_law_877 (by decide) ?_
  refine W.widen (k := 127 + 9 * (t + 1)) (n := 14114 + 54 * (t + 1)) (by omega) (by omega) ?_
  refine lv_iinc (v := nI (6 * (t + 1))) (lv' := [(4, .int (nI (6 * (t + 1)))), (5, .int ((S_LW_swap σ (xs ((nI (6 * t)) + (1 : Int32)).toNatClampNeg) (xs ((nI (6 * t)) + (2 : Int32)).toNatClampNeg) (xs ((nI (6 * t)) + (3 : Int32)).toNatClampNeg) (xs ((nI (6 * t)) + (4 : Int32)).toNatClampNeg) (xs ((nI (6 * t)) + (5 : Int32)).toNatClampNeg)).1)), (3, .ref (xB s + XA 31 0)), (2, .ref (xB s + XA 15 0)), (1, .ref (xB s + XA 0 0)), (0, .ref b)]) hx hb d_LW_law_1611 hl (k := 1) rfl (by show nI (6 * t) + nI 6 = _; rw [nI_add]; exact congrArg nI (by omega)) (by decide) rfl (fun ls hl => ?_)
  refine lv_goto (tgt := 23) hx hb d_LW_law_1614 (by decide) ?_
  exact ih _ _ _ ls hR.1 hX hS (lv_sub hl [0, 2, 3, 4, 5] rfl)

set_option maxHeartbeats 8000000 in
set_option maxRecDepth 100000 in
theorem k_ends {p : Program} {l : Launch} {e : Env} {s : State} {m : MethodId} {below : List Frame} {meth : Method} {c : Code} {b L : Nat} {xs : Nat → Int32} {D : va_G} {dA : Nat → ClassId} (h0 : XS0 l s #[Value.ref b] D dA) (C0 : lw_At p s m meth c b L xs) {t : Nat} (ht : t < 512) (hL : 6 * t + 6 ≤ L) (hL2 : L ≤ 3072) {σ : XS} (h : Rel t σ) {H : Heap} {locs : List Loc} (hX : XWs D dA s σ H) (hS : va_S (xAm s) s.heap H locs) {ls : Array Slot} (hl : lv_has ls 8 [(4, .int (nI (6 * t))), (3, .ref (xB s + XA 31 0)), (2, .ref (xB s + XA 15 0)), (1, .ref (xB s + XA 0 0)), (0, .ref b)])
    (ih : ∀ (σ' : XS) (H' : Heap) (locs' : List Loc) (ls' : Array Slot), Rel (t + 1) σ' → XWs D dA s σ' H' → va_S (xAm s) s.heap H' locs' → lv_has ls' 8 [(4, .int (nI (6 * (t + 1)))), (3, .ref (xB s + XA 31 0)), (2, .ref (xB s + XA 15 0)), (1, .ref (xB s + XA 0 0)), (0, .ref b)] → W p l e room_1 s m #[Value.ref b] below meth c H' locs' (127 + 9 * (t + 1)) (14114 + 54 * (t + 1)) (lw_Z below #[Value.ref b] s) (F0 m 23 ls' [])) :
    W p l e room_1 s m #[Value.ref b] below meth c H locs (127 + 9 * t) (14114 + 54 * t) (lw_Z below #[Value.ref b] s) (F0 m 880 ls []) := by
  obtain ⟨hx, hb, hr, hml, hown, htsL, hXs, hbl, hlocks, hgv⟩ := C0
  have hbA : ¬ xAm s b := Nat.not_le.mpr hbl
  have hW0 : s.WarmedH s.vm := State.WarmedH.refl s
  have hts := xs_w (args := #[Value.ref b]) h0 hW0
  have hK := xs_K h0 hW0
  refine lv_aload_n hx hb d_LW_law_880 rfl (lv_at hl 3 rfl) ?_
  refine lv_aload_n hx hb d_LW_law_881 rfl (lv_at hl 4 rfl) ?_
  refine lv_iload hx hb d_LW_law_882 (lv_at hl 0 rfl) ?_
  refine lv_iconst (v := 1) hx hb d_LW_law_884 (by decide) ?_
  refine lv_iadd hx hb d_LW_law_885 ?_
  refine va_sld hx hb hXs hbl hbA hS (sc_in (k := 1) (show 6 * t + 1 < L by omega) (by omega)) d_LW_law_886 ?_
  refine lv_aload_n hx hb d_LW_law_887 rfl (lv_at hl 4 rfl) ?_
  refine lv_iload hx hb d_LW_law_888 (lv_at hl 0 rfl) ?_
  refine lv_iconst (v := 2) hx hb d_LW_law_890 (by decide) ?_
  refine lv_iadd hx hb d_LW_law_891 ?_
  refine va_sld hx hb hXs hbl hbA hS (sc_in (k := 2) (show 6 * t + 2 < L by omega) (by omega)) d_LW_law_892 ?_
  refine lv_aload_n hx hb d_LW_law_893 rfl (lv_at hl 4 rfl) ?_
  refine lv_iload hx hb d_LW_law_894 (lv_at hl 0 rfl) ?_
  refine lv_iconst (v := 3) hx hb d_LW_law_896 (by decide) ?_
  refine lv_iadd hx hb d_LW_law_897 ?_
  refine va_sld hx hb hXs hbl hbA hS (sc_in (k := 3) (show 6 * t + 3 < L by omega) (by omega)) d_LW_law_898 ?_
  refine xc_s (rest := []) (x_invS (argsL := [.ref (xB s + XA 0 0), .int (xs ((nI (6 * t)) + (1 : Int32)).toNatClampNeg), .int (xs ((nI (6 * t)) + (2 : Int32)).toNatClampNeg), .int (xs ((nI (6 * t)) + (3 : Int32)).toNatClampNeg)]) hx hb hown (hts _ w_444) (hts _ w_445) (hts _ w_33) (x_codeW (hts _ w_446)) ⟨by decide, by decide⟩ rfl rfl rfl d_LW_law_899) (c_LW_ends h0 σ (xs ((nI (6 * t)) + (1 : Int32)).toNatClampNeg) (xs ((nI (6 * t)) + (2 : Int32)).toNatClampNeg) (xs ((nI (6 * t)) + (3 : Int32)).toNatClampNeg) (h.xok (by omega))) (xs_cwW h0 hW0 m_446) (hts _ w_33) ⟨rfl, rfl, Nat.le_of_ble_eq_true rfl, Nat.le_of_ble_eq_true rfl⟩ (hl.1.trans hml.symm) (by rw [hb]; exact d_LW_law_899) (Nat.le_of_ble_eq_true rfl) ⟨by show _ ≤ 601024; omega, by show _ ≤ 7293034; omega⟩ hX hW0 hS (fun v σ1 H locs hM hX hS => ?_) (fun E x H1 locs1 hM => by cases hM)
  obtain ⟨ev, es⟩ := x_inl hM
  subst es
  subst ev
  have hR := r_ends h ht (xs ((nI (6 * t)) + (1 : Int32)).toNatClampNeg) (xs ((nI (6 * t)) + (2 : Int32)).toNatClampNeg) (xs ((nI (6 * t)) + (3 : Int32)).toNatClampNeg)
  refine lv_istore (lv' := [(5, .int ((S_LW_ends σ (xs ((nI (6 * t)) + (1 : Int32)).toNatClampNeg) (xs ((nI (6 * t)) + (2 : Int32)).toNatClampNeg) (xs ((nI (6 * t)) + (3 : Int32)).toNatClampNeg)).1)), (4, .int (nI (6 * t))), (3, .ref (xB s + XA 31 0)), (2, .ref (xB s + XA 15 0)), (1, .ref (xB s + XA 0 0)), (0, .ref b)]) hx hb d_LW_law_902 hl (by decide) rfl (fun ls hl => ?_)
  refine lv_aload_n hx hb d_LW_law_904 rfl (lv_at hl 3 rfl) ?_
  refine lv_aload_n hx hb d_LW_law_905 rfl (lv_at hl 5 rfl) ?_
  refine lv_iload hx hb d_LW_law_906 (lv_at hl 1 rfl) ?_
  refine lv_iconst (v := 1) hx hb d_LW_law_908 (by decide) ?_
  refine lv_iadd hx hb d_LW_law_909 ?_
  refine va_sld hx hb hXs hbl hbA hS (sc_in (k := 1) (show 6 * t + 1 < L by omega) (by omega)) d_LW_law_910 ?_
  refine lv_aload_n hx hb d_LW_law_911 rfl (lv_at hl 5 rfl) ?_
  refine lv_iload hx hb d_LW_law_912 (lv_at hl 1 rfl) ?_
  refine lv_iconst (v := 2) hx hb d_LW_law_914 (by decide) ?_
  refine lv_iadd hx hb d_LW_law_915 ?_
  refine va_sld hx hb hXs hbl hbA hS (sc_in (k := 2) (show 6 * t + 2 < L by omega) (by omega)) d_LW_law_916 ?_
  refine lv_aload_n hx hb d_LW_law_917 rfl (lv_at hl 5 rfl) ?_
  refine lv_iload hx hb d_LW_law_918 (lv_at hl 1 rfl) ?_
  refine lv_iconst (v := 3) hx hb d_LW_law_920 (by decide) ?_
  refine lv_iadd hx hb d_LW_law_921 ?_
  refine va_sld hx hb hXs hbl hbA hS (sc_in (k := 3) (show 6 * t + 3 < L by omega) (by omega)) d_LW_law_922 ?_
  obtain ⟨cB, hcB, hoB, hkB⟩ := xw_recv (r := 15) (i := 0) hK hX (by decide) rfl rfl
  refine xc_s (rest := []) (x_invV (argsL := [.int (xs ((nI (6 * t)) + (1 : Int32)).toNatClampNeg), .int (xs ((nI (6 * t)) + (2 : Int32)).toNatClampNeg), .int (xs ((nI (6 * t)) + (3 : Int32)).toNatClampNeg)]) hx hb hown (hts _ w_762) (hts _ w_763) (hts _ w_764) (x_code (hts _ w_765)) ⟨by decide, by decide⟩ hcB hoB hkB rfl rfl rfl d_LW_law_923) (c_MO_ends h0 (S_LW_ends σ (xs ((nI (6 * t)) + (1 : Int32)).toNatClampNeg) (xs ((nI (6 * t)) + (2 : Int32)).toNatClampNeg) (xs ((nI (6 * t)) + (3 : Int32)).toNatClampNeg)).2 (xs ((nI (6 * t)) + (1 : Int32)).toNatClampNeg) (xs ((nI (6 * t)) + (2 : Int32)).toNatClampNeg) (xs ((nI (6 * t)) + (3 : Int32)).toNatClampNeg) (mok_kp (h.mok (by omega)) kp_ends)) (xs_cw h0 hW0 m_765) (hts _ w_38) ⟨rfl, rfl, Nat.le_of_ble_eq_true rfl, Nat.le_of_ble_eq_true rfl⟩ (hl.1.trans hml.symm) (by rw [hb]; exact d_LW_law_923) (Nat.le_of_ble_eq_true rfl) ⟨by show _ ≤ 601024; omega, by show _ ≤ 7293034; omega⟩ hX hW0 hS (fun v σ1 H locs hM hX hS => ?_) (fun E x H1 locs1 hM => by cases hM)
  obtain ⟨ev, es⟩ := x_inl hM
  subst es
  refine lv_aload_n hx hb d_LW_law_926 rfl (lv_at hl 3 rfl) ?_
  obtain ⟨cB927, hcB927, hoB927, hkB927⟩ := xw_recv (r := 15) (i := 0) hK hX (by decide) rfl rfl
  refine xc_f (rest := []) (x_invV (argsL := []) hx hb hown (hts _ w_656) (hts _ w_657) (hts _ w_658) (x_code (hts _ w_659)) ⟨by decide, by decide⟩ hcB927 hoB927 hkB927 rfl rfl rfl d_LW_law_927) (c_MO_thrown h0 (S_MO_ends (S_LW_ends σ (xs ((nI (6 * t)) + (1 : Int32)).toNatClampNeg) (xs ((nI (6 * t)) + (2 : Int32)).toNatClampNeg) (xs ((nI (6 * t)) + (3 : Int32)).toNatClampNeg)).2 (xs ((nI (6 * t)) + (1 : Int32)).toNatClampNeg) (xs ((nI (6 * t)) + (2 : Int32)).toNatClampNeg) (xs ((nI (6 * t)) + (3 : Int32)).toNatClampNeg)).2) (xs_cw h0 hW0 m_659) (hts _ w_38) ⟨rfl, rfl, Nat.le_of_ble_eq_true rfl, Nat.le_of_ble_eq_true rfl⟩ (hl.1.trans hml.symm) (by rw [hb]; exact d_LW_law_927) (Nat.le_of_ble_eq_true rfl) ⟨by show _ ≤ 601024; omega, by show _ ≤ 7293034; omega⟩ hX ⟨hW0, xo_S hS⟩ ?_
  refine lv_iload hx hb d_LW_law_930 (lv_at hl 0 rfl) ?_
  refine lv_icmp_eq (tgt := 937) hx hb d_LW_law_932 (by decide) (fun _ => ?_) (fun c => absurd hR.2 c)
  refine lv_goto (tgt := 1611) hx hb d_LW_law_937 (by decide) ?_
  refine W.widen (k := 127 + 9 * (t + 1)) (n := 14114 + 54 * (t + 1)) (by omega) (by omega) ?_
  refine lv_iinc (v := nI (6 * (t + 1))) (lv' := [(4, .int (nI (6 * (t + 1)))), (5, .int ((S_LW_ends σ (xs ((nI (6 * t)) + (1 : Int32)).toNatClampNeg) (xs ((nI (6 * t)) + (2 : Int32)).toNatClampNeg) (xs ((nI (6 * t)) + (3 : Int32)).toNatClampNeg)).1)), (3, .ref (xB s + XA 31 0)), (2, .ref (xB s + XA 15 0)), (1, .ref (xB s + XA 0 0)), (0, .ref b)]) hx hb d_LW_law_1611 hl (k := 1) rfl (by show nI (6 * t) + nI 6 = _; rw [nI_add]; exact congrArg nI (by omega)) (by decide) rfl (fun ls hl => ?_)
  refine lv_goto (tgt := 23) hx hb d_LW_law_1614 (by decide) ?_
  exact ih _ _ _ ls hR.1 hX hS (lv_sub hl [0, 2, 3, 4, 5] rfl)
