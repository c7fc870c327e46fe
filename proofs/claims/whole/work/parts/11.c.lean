abbrev rm_LC_ends : Room := { frames := 7, cells := 3, slots := 18, locals := 104 }
def S_LC_ends (σ : XS) (v : Int32) (it : Int32) (d : Int32) : (Unit × XS) ⊕ String := (xbp (S_LC_knownVehicle σ v) fun v2 => (xbp (S_LC_requireItem σ it) fun _ => (xbp (S_LC_requireRange σ d (-1 : Int32) (9999 : Int32)) fun _ => .inl ((), (xuI σ 13 v2 it.toNatClampNeg d)))))
set_option maxHeartbeats 4000000 in
set_option maxRecDepth 100000 in
theorem c_LC_ends {l : Launch} {s0 : State} {A0 : Array Value} {D : va_G} {dA : Nat → ClassId} (h0 : XS0 l s0 A0 D dA) (σ : XS) (v : Int32) (it : Int32) (d : Int32) (hok : XOk σ) : XMet l y_LC_ends [cw_LC_ends] rm_LC_ends (XP D dA s0 σ [.ref (xB s0 + XA 0 0), .int v, .int it, .int d]) (XQs D dA s0 xv_v (S_LC_ends σ v it d)) 3 18 (xAm s0) := by
  refine XMet.ofW (cc := b_LC_ends) (maxL := 5) (ret := none) (by decide) rfl ?_
  intro p e s m args below meth c s₁ Bd hml hvA
  obtain ⟨rfl, hX, hO⟩ := hvA
  have hx := Bd.exec
  have hb := Bd.bytes
  have hr := Bd.returns
  have hown : s.vm.findClass "LoadChecks" = some m.cls := findClass_of_methodNamed Bd.named
  have hlocks := Bd.notSynchronized
  have hnt : c.exceptionTable.isEmpty = true := Bd.noHandlers (atoms_spec (ws := [cw_LC_ends]) Bd.pre _ List.mem_cons_self)
  have hW0 := hO.1
  have hts := xs_w (args := ([.ref (xB s0 + XA 0 0), .int v, .int it, .int d] : List Value).toArray) h0 hW0
  have hK := xs_K h0 hW0
  have hS := xo_S0 hO
  have hl := lv_entry ([.ref (xB s0 + XA 0 0), .int v, .int it, .int d]) (n := 5) (Nat.le_of_ble_eq_true rfl)
  rw [lg_entry_eq]
  generalize (lg_sl ([.ref (xB s0 + XA 0 0), .int v, .int it, .int d]) ++ List.replicate (5 - (lg_sl ([.ref (xB s0 + XA 0 0), .int v, .int it, .int d])).length) Slot.unset).toArray = ls at hl ⊢
  have hl : lv_has ls 5 [(0, .ref (xB s0 + XA 0 0)), (1, .int v), (2, .int it), (3, .int d)] := hl
  generalize hR : S_LC_ends σ v it d = res
  unfold S_LC_ends at hR
  refine lv_aload_n hx hb d_LC_ends_0 rfl (lv_at hl 0 rfl) ?_
  refine lv_iload_n hx hb d_LC_ends_1 rfl (lv_at hl 1 rfl) ?_
  obtain ⟨cB2, hcB2, hoB2, hkB2⟩ := xw_recv (r := 0) (i := 0) hK hX (by decide) rfl rfl
  refine xc_p (rest := []) (x_invV (argsL := [.int v]) hx hb hown (hts _ w_290) (hts _ w_292) (hts _ w_1) (x_code (hts _ w_293)) ⟨by decide, by decide⟩ hcB2 hoB2 hkB2 rfl rfl rfl d_LC_ends_2) (c_LC_knownVehicle h0 σ v hok) (xs_cw h0 hW0 m_293) (hts _ w_34) ⟨rfl, rfl, Nat.le_of_ble_eq_true rfl, Nat.le_of_ble_eq_true rfl⟩ (hl.1.trans hml.symm) (by rw [hb]; exact d_LC_ends_2) (Nat.le_of_ble_eq_true rfl) ⟨Nat.le_of_ble_eq_true rfl, Nat.le_of_ble_eq_true rfl⟩ hX ⟨hW0, xo_S hS⟩ (fun v2 hM2 => ?_) (fun E2 x2 H2 hM2 hE2 he2 => ?_)
  · rw [hM2] at hR
    dsimp only [xbp] at hR
    have f2 := f_known hok hM2
    refine lv_astore (lv' := [(4, .ref (xB s0 + XA 9 v2)), (0, .ref (xB s0 + XA 0 0)), (1, .int v), (2, .int it), (3, .int d)]) hx hb d_LC_ends_5 hl (by decide) rfl (fun ls hl => ?_)
    refine lv_iload_n hx hb d_LC_ends_7 rfl (lv_at hl 3 rfl) ?_
    refine xc_p (rest := []) (x_invS (argsL := [.int it]) hx hb hown (hts _ w_337) (hts _ w_338) (hts _ w_34) (x_code (hts _ w_339)) ⟨by decide, by decide⟩ rfl rfl rfl d_LC_ends_8) (c_LC_requireItem h0 σ it) (xs_cw h0 hW0 m_339) (hts _ w_34) ⟨rfl, rfl, Nat.le_of_ble_eq_true rfl, Nat.le_of_ble_eq_true rfl⟩ (hl.1.trans hml.symm) (by rw [hb]; exact d_LC_ends_8) (Nat.le_of_ble_eq_true rfl) ⟨Nat.le_of_ble_eq_true rfl, Nat.le_of_ble_eq_true rfl⟩ hX ⟨hW0, xo_S hS⟩ (fun v8 hM8 => ?_) (fun E8 x8 H8 hM8 hE8 he8 => ?_)
    · rw [hM8] at hR
      dsimp only [xbp] at hR
      have f8 := f_item hM8
      refine lv_iload_n hx hb d_LC_ends_11 rfl (lv_at hl 4 rfl) ?_
      refine lv_iconst (v := -1) hx hb d_LC_ends_12 (by decide) ?_
      refine lv_sipush (v := 9999) hx hb d_LC_ends_13 (by decide) ?_
      refine xc_p (rest := []) (x_invS (argsL := [.int d, .int (-1 : Int32), .int (9999 : Int32)]) hx hb hown (hts _ w_244) (hts _ w_245) (hts _ w_34) (x_code (hts _ w_246)) ⟨by decide, by decide⟩ rfl rfl rfl d_LC_ends_16) (c_LC_requireRange h0 σ d (-1 : Int32) (9999 : Int32)) (xs_cw h0 hW0 m_246) (hts _ w_34) ⟨rfl, rfl, Nat.le_of_ble_eq_true rfl, Nat.le_of_ble_eq_true rfl⟩ (hl.1.trans hml.symm) (by rw [hb]; exact d_LC_ends_16) (Nat.le_of_ble_eq_true rfl) ⟨Nat.le_of_ble_eq_true rfl, Nat.le_of_ble_eq_true rfl⟩ hX ⟨hW0, xo_S hS⟩ (fun v16 hM16 => ?_) (fun E16 x16 H16 hM16 hE16 he16 => ?_)
      · rw [hM16] at hR
        dsimp only [xbp] at hR
        refine lv_aload hx hb d_LC_ends_19 (lv_at hl 0 rfl) ?_
        refine xw_getN (C := R_VE) (T := F_VE) (N := 13) (r := 9) (i := v2) hx hb hts hi_VE hown hK hX f2 rfl rfl 3 (by decide) (xs_N h0 hW0 m_89) rfl rfl d_LC_ends_21 ?_
        refine lv_iload_n hx hb d_LC_ends_24 rfl (lv_at hl 3 rfl) ?_
        refine lv_iload_n hx hb d_LC_ends_25 rfl (lv_at hl 4 rfl) ?_
        refine xw_iast (r := 13) (i := v2) (ent' := XE dA (xB s0) (xuI σ 13 v2 it.toNatClampNeg d)) hx hb hK xInj hX hS (xA_in _ _ _) f2 0 rfl rfl (j := it) f8 ((xe_uI dA (xB s0) σ 13 v2 it.toNatClampNeg d).trans rfl) (xe_oI dA (xB s0) σ 13 v2 it.toNatClampNeg d) d_LC_ends_26 (fun H locs hX hS => ?_)
        subst hR
        refine W.widen (k := 3) (n := 18) (by decide) (by decide) ?_; exact xs_v hx hb hr hlocks hX hS d_LC_ends_27
      · rw [hM16] at hR
        dsimp only [xbp] at hR
        subst hR
        refine xt_wid (k := 3) (n := 18) (by decide) (by decide) ?_
        exact xt_s hlocks hnt hE16 he16 (fun q h => by cases h)
    · rw [hM8] at hR
      dsimp only [xbp] at hR
      subst hR
      refine xt_wid (k := 3) (n := 18) (by decide) (by decide) ?_
      exact xt_s hlocks hnt hE8 he8 (fun q h => by cases h)
  · rw [hM2] at hR
    dsimp only [xbp] at hR
    subst hR
    refine xt_wid (k := 3) (n := 18) (by decide) (by decide) ?_
    exact xt_s hlocks hnt hE2 he2 (fun q h => by cases h)

abbrev rm_LC_battery : Room := { frames := 7, cells := 3, slots := 18, locals := 104 }
def S_LC_battery (σ : XS) (v : Int32) (it : Int32) (d : Int32) : (Unit × XS) ⊕ String := (xbp (S_LC_knownVehicle σ v) fun v2 => (xbp (S_LC_requireItem σ it) fun _ => (xbp (S_LC_requireRange σ d (0 : Int32) (100 : Int32)) fun _ => .inl ((), (xuI σ 14 v2 it.toNatClampNeg d)))))
set_option maxHeartbeats 4000000 in
set_option maxRecDepth 100000 in
theorem c_LC_battery {l : Launch} {s0 : State} {A0 : Array Value} {D : va_G} {dA : Nat → ClassId} (h0 : XS0 l s0 A0 D dA) (σ : XS) (v : Int32) (it : Int32) (d : Int32) (hok : XOk σ) : XMet l y_LC_battery [cw_LC_battery] rm_LC_battery (XP D dA s0 σ [.ref (xB s0 + XA 0 0), .int v, .int it, .int d]) (XQs D dA s0 xv_v (S_LC_battery σ v it d)) 3 18 (xAm s0) := by
  refine XMet.ofW (cc := b_LC_battery) (maxL := 5) (ret := none) (by decide) rfl ?_
  intro p e s m args below meth c s₁ Bd hml hvA
  obtain ⟨rfl, hX, hO⟩ := hvA
  have hx := Bd.exec
  have hb := Bd.bytes
  have hr := Bd.returns
  have hown : s.vm.findClass "LoadChecks" = some m.cls := findClass_of_methodNamed Bd.named
  have hlocks := Bd.notSynchronized
  have hnt : c.exceptionTable.isEmpty = true := Bd.noHandlers (atoms_spec (ws := [cw_LC_battery]) Bd.pre _ List.mem_cons_self)
  have hW0 := hO.1
  have hts := xs_w (args := ([.ref (xB s0 + XA 0 0), .int v, .int it, .int d] : List Value).toArray) h0 hW0
  have hK := xs_K h0 hW0
  have hS := xo_S0 hO
  have hl := lv_entry ([.ref (xB s0 + XA 0 0), .int v, .int it, .int d]) (n := 5) (Nat.le_of_ble_eq_true rfl)
  rw [lg_entry_eq]
  generalize (lg_sl ([.ref (xB s0 + XA 0 0), .int v, .int it, .int d]) ++ List.replicate (5 - (lg_sl ([.ref (xB s0 + XA 0 0), .int v, .int it, .int d])).length) Slot.unset).toArray = ls at hl ⊢
  have hl : lv_has ls 5 [(0, .ref (xB s0 + XA 0 0)), (1, .int v), (2, .int it), (3, .int d)] := hl
  generalize hR : S_LC_battery σ v it d = res
  unfold S_LC_battery at hR
  refine lv_aload_n hx hb d_LC_battery_0 rfl (lv_at hl 0 rfl) ?_
  refine lv_iload_n hx hb d_LC_battery_1 rfl (lv_at hl 1 rfl) ?_
  obtain ⟨cB2, hcB2, hoB2, hkB2⟩ := xw_recv (r := 0) (i := 0) hK hX (by decide) rfl rfl
  refine xc_p (rest := []) (x_invV (argsL := [.int v]) hx hb hown (hts _ w_290) (hts _ w_292) (hts _ w_1) (x_code (hts _ w_293)) ⟨by decide, by decide⟩ hcB2 hoB2 hkB2 rfl rfl rfl d_LC_battery_2) (c_LC_knownVehicle h0 σ v hok) (xs_cw h0 hW0 m_293) (hts _ w_34) ⟨rfl, rfl, Nat.le_of_ble_eq_true rfl, Nat.le_of_ble_eq_true rfl⟩ (hl.1.trans hml.symm) (by rw [hb]; exact d_LC_battery_2) (Nat.le_of_ble_eq_true rfl) ⟨Nat.le_of_ble_eq_true rfl, Nat.le_of_ble_eq_true rfl⟩ hX ⟨hW0, xo_S hS⟩ (fun v2 hM2 => ?_) (fun E2 x2 H2 hM2 hE2 he2 => ?_)
  · rw [hM2] at hR
    dsimp only [xbp] at hR
    have f2 := f_known hok hM2
    refine lv_astore (lv' := [(4, .ref (xB s0 + XA 9 v2)), (0, .ref (xB s0 + XA 0 0)), (1, .int v), (2, .int it), (3, .int d)]) hx hb d_LC_battery_5 hl (by decide) rfl (fun ls hl => ?_)
    refine lv_iload_n hx hb d_LC_battery_7 rfl (lv_at hl 3 rfl) ?_
    refine xc_p (rest := []) (x_invS (argsL := [.int it]) hx hb hown (hts _ w_337) (hts _ w_338) (hts _ w_34) (x_code (hts _ w_339)) ⟨by decide, by decide⟩ rfl rfl rfl d_LC_battery_8) (c_LC_requireItem h0 σ it) (xs_cw h0 hW0 m_339) (hts _ w_34) ⟨rfl, rfl, Nat.le_of_ble_eq_true rfl, Nat.le_of_ble_eq_true rfl⟩ (hl.1.trans hml.symm) (by rw [hb]; exact d_LC_battery_8) (Nat.le_of_ble_eq_true rfl) ⟨Nat.le_of_ble_eq_true rfl, Nat.le_of_ble_eq_true rfl⟩ hX ⟨hW0, xo_S hS⟩ (fun v8 hM8 => ?_) (fun E8 x8 H8 hM8 hE8 he8 => ?_)
    · rw [hM8] at hR
      dsimp only [xbp] at hR
      have f8 := f_item hM8
      refine lv_iload_n hx hb d_LC_battery_11 rfl (lv_at hl 4 rfl) ?_
      refine lv_iconst (v := 0) hx hb d_LC_battery_12 (by decide) ?_
      refine lv_bipush (v := 100) hx hb d_LC_battery_13 (by decide) ?_
      refine xc_p (rest := []) (x_invS (argsL := [.int d, .int (0 : Int32), .int (100 : Int32)]) hx hb hown (hts _ w_244) (hts _ w_245) (hts _ w_34) (x_code (hts _ w_246)) ⟨by decide, by decide⟩ rfl rfl rfl d_LC_battery_15) (c_LC_requireRange h0 σ d (0 : Int32) (100 : Int32)) (xs_cw h0 hW0 m_246) (hts _ w_34) ⟨rfl, rfl, Nat.le_of_ble_eq_true rfl, Nat.le_of_ble_eq_true rfl⟩ (hl.1.trans hml.symm) (by rw [hb]; exact d_LC_battery_15) (Nat.le_of_ble_eq_true rfl) ⟨Nat.le_of_ble_eq_true rfl, Nat.le_of_ble_eq_true rfl⟩ hX ⟨hW0, xo_S hS⟩ (fun v15 hM15 => ?_) (fun E15 x15 H15 hM15 hE15 he15 => ?_)
      · rw [hM15] at hR
        dsimp only [xbp] at hR
        refine lv_aload hx hb d_LC_battery_18 (lv_at hl 0 rfl) ?_
        refine xw_getN (C := R_VE) (T := F_VE) (N := 13) (r := 9) (i := v2) hx hb hts hi_VE hown hK hX f2 rfl rfl 4 (by decide) (xs_N h0 hW0 m_91) rfl rfl d_LC_battery_20 ?_
        refine lv_iload_n hx hb d_LC_battery_23 rfl (lv_at hl 3 rfl) ?_
        refine lv_iload_n hx hb d_LC_battery_24 rfl (lv_at hl 4 rfl) ?_
        refine xw_iast (r := 14) (i := v2) (ent' := XE dA (xB s0) (xuI σ 14 v2 it.toNatClampNeg d)) hx hb hK xInj hX hS (xA_in _ _ _) f2 0 rfl rfl (j := it) f8 ((xe_uI dA (xB s0) σ 14 v2 it.toNatClampNeg d).trans rfl) (xe_oI dA (xB s0) σ 14 v2 it.toNatClampNeg d) d_LC_battery_25 (fun H locs hX hS => ?_)
        subst hR
        refine W.widen (k := 3) (n := 18) (by decide) (by decide) ?_; exact xs_v hx hb hr hlocks hX hS d_LC_battery_26
      · rw [hM15] at hR
        dsimp only [xbp] at hR
        subst hR
        refine xt_wid (k := 3) (n := 18) (by decide) (by decide) ?_
        exact xt_s hlocks hnt hE15 he15 (fun q h => by cases h)
    · rw [hM8] at hR
      dsimp only [xbp] at hR
      subst hR
      refine xt_wid (k := 3) (n := 18) (by decide) (by decide) ?_
      exact xt_s hlocks hnt hE8 he8 (fun q h => by cases h)
  · rw [hM2] at hR
    dsimp only [xbp] at hR
    subst hR
    refine xt_wid (k := 3) (n := 18) (by decide) (by decide) ?_
    exact xt_s hlocks hnt hE2 he2 (fun q h => by cases h)

abbrev rm_LC_seal : Room := { frames := 7, cells := 3, slots := 18, locals := 103 }
def S_LC_seal (σ : XS) (v : Int32) (cup : Int32) (b : Int32) : (Unit × XS) ⊕ String := (xbp (S_LC_knownVehicle σ v) fun v2 => (xbp (S_LC_requireCupboard σ cup) fun _ => (if b = 0 then (if (σ.1 11 v2 cup.toNatClampNeg) = (1 : Int32) then .inr "java/lang/IllegalStateException" else .inl ((), (xuI σ 11 v2 cup.toNatClampNeg (vp_nar .boolean (1 : Int32))))) else (if (σ.1 11 v2 cup.toNatClampNeg) = (0 : Int32) then .inr "java/lang/IllegalStateException" else .inl ((), (xuI σ 11 v2 cup.toNatClampNeg (vp_nar .boolean (0 : Int32))))))))
set_option maxHeartbeats 4000000 in
set_option maxRecDepth 100000 in
theorem c_LC_seal {l : Launch} {s0 : State} {A0 : Array Value} {D : va_G} {dA : Nat → ClassId} (h0 : XS0 l s0 A0 D dA) (σ : XS) (v : Int32) (cup : Int32) (b : Int32) (hok : XOk σ) : XMet l y_LC_seal [cw_LC_seal] rm_LC_seal (XP D dA s0 σ [.ref (xB s0 + XA 0 0), .int v, .int cup, .int b]) (XQs D dA s0 xv_v (S_LC_seal σ v cup b)) 3 18 (xAm s0) := by
  refine XMet.ofW (cc := b_LC_seal) (maxL := 6) (ret := none) (by decide) rfl ?_
  intro p e s m args below meth c s₁ Bd hml hvA
  obtain ⟨rfl, hX, hO⟩ := hvA
  have hx := Bd.exec
  have hb := Bd.bytes
  have hr := Bd.returns
  have hown : s.vm.findClass "LoadChecks" = some m.cls := findClass_of_methodNamed Bd.named
  have hlocks := Bd.notSynchronized
  have hnt : c.exceptionTable.isEmpty = true := Bd.noHandlers (atoms_spec (ws := [cw_LC_seal]) Bd.pre _ List.mem_cons_self)
  have hW0 := hO.1
  have hts := xs_w (args := ([.ref (xB s0 + XA 0 0), .int v, .int cup, .int b] : List Value).toArray) h0 hW0
  have hK := xs_K h0 hW0
  have hS := xo_S0 hO
  have hl := lv_entry ([.ref (xB s0 + XA 0 0), .int v, .int cup, .int b]) (n := 6) (Nat.le_of_ble_eq_true rfl)
  rw [lg_entry_eq]
  generalize (lg_sl ([.ref (xB s0 + XA 0 0), .int v, .int cup, .int b]) ++ List.replicate (6 - (lg_sl ([.ref (xB s0 + XA 0 0), .int v, .int cup, .int b])).length) Slot.unset).toArray = ls at hl ⊢
  have hl : lv_has ls 6 [(0, .ref (xB s0 + XA 0 0)), (1, .int v), (2, .int cup), (3, .int b)] := hl
  generalize hR : S_LC_seal σ v cup b = res
  unfold S_LC_seal at hR
  refine lv_aload_n hx hb d_LC_seal_0 rfl (lv_at hl 0 rfl) ?_
  refine lv_iload_n hx hb d_LC_seal_1 rfl (lv_at hl 1 rfl) ?_
  obtain ⟨cB2, hcB2, hoB2, hkB2⟩ := xw_recv (r := 0) (i := 0) hK hX (by decide) rfl rfl
  refine xc_p (rest := []) (x_invV (argsL := [.int v]) hx hb hown (hts _ w_290) (hts _ w_292) (hts _ w_1) (x_code (hts _ w_293)) ⟨by decide, by decide⟩ hcB2 hoB2 hkB2 rfl rfl rfl d_LC_seal_2) (c_LC_knownVehicle h0 σ v hok) (xs_cw h0 hW0 m_293) (hts _ w_34) ⟨rfl, rfl, Nat.le_of_ble_eq_true rfl, Nat.le_of_ble_eq_true rfl⟩ (hl.1.trans hml.symm) (by rw [hb]; exact d_LC_seal_2) (Nat.le_of_ble_eq_true rfl) ⟨Nat.le_of_ble_eq_true rfl, Nat.le_of_ble_eq_true rfl⟩ hX ⟨hW0, xo_S hS⟩ (fun v2 hM2 => ?_) (fun E2 x2 H2 hM2 hE2 he2 => ?_)
  · rw [hM2] at hR
    dsimp only [xbp] at hR
    have f2 := f_known hok hM2
    refine lv_astore (lv' := [(4, .ref (xB s0 + XA 9 v2)), (0, .ref (xB s0 + XA 0 0)), (1, .int v), (2, .int cup), (3, .int b)]) hx hb d_LC_seal_5 hl (by decide) rfl (fun ls hl => ?_)
    refine lv_iload_n hx hb d_LC_seal_7 rfl (lv_at hl 3 rfl) ?_
    refine xc_p (rest := []) (x_invS (argsL := [.int cup]) hx hb hown (hts _ w_303) (hts _ w_304) (hts _ w_34) (x_code (hts _ w_305)) ⟨by decide, by decide⟩ rfl rfl rfl d_LC_seal_8) (c_LC_requireCupboard h0 σ cup) (xs_cw h0 hW0 m_305) (hts _ w_34) ⟨rfl, rfl, Nat.le_of_ble_eq_true rfl, Nat.le_of_ble_eq_true rfl⟩ (hl.1.trans hml.symm) (by rw [hb]; exact d_LC_seal_8) (Nat.le_of_ble_eq_true rfl) ⟨Nat.le_of_ble_eq_true rfl, Nat.le_of_ble_eq_true rfl⟩ hX ⟨hW0, xo_S hS⟩ (fun v8 hM8 => ?_) (fun E8 x8 H8 hM8 hE8 he8 => ?_)
    · rw [hM8] at hR
      dsimp only [xbp] at hR
      have f8 := f_cup hM8
      refine lv_iload_n hx hb d_LC_seal_11 rfl (lv_at hl 4 rfl) ?_
      refine lv_if_ne (tgt := 19) hx hb d_LC_seal_12 (by decide) (fun c12 => ?_) (fun c12 => ?_)
      · rw [if_neg c12] at hR
        refine lv_iconst (v := 0) hx hb d_LC_seal_19 (by decide) ?_
        refine lv_istore (lv' := [(5, .int (0 : Int32)), (4, .ref (xB s0 + XA 9 v2)), (0, .ref (xB s0 + XA 0 0)), (1, .int v), (2, .int cup), (3, .int b)]) hx hb d_LC_seal_20 hl (by decide) rfl (fun ls hl => ?_)
        refine lv_aload hx hb d_LC_seal_22 (lv_at hl 1 rfl) ?_
        refine xw_getN (C := R_VE) (T := F_VE) (N := 13) (r := 9) (i := v2) hx hb hts hi_VE hown hK hX f2 rfl rfl 1 (by decide) (xs_N h0 hW0 m_85) rfl rfl d_LC_seal_24 ?_
        refine lv_iload_n hx hb d_LC_seal_27 rfl (lv_at hl 4 rfl) ?_
        refine xw_zald (r := 11) (i := v2) hx hb hK hX f2 1 rfl rfl (j := cup) f8 d_LC_seal_28 ?_
        refine lv_iload hx hb d_LC_seal_29 (lv_at hl 0 rfl) ?_
        refine lv_icmp_ne (tgt := 44) hx hb d_LC_seal_31 (by decide) (fun c31 => ?_) (fun c31 => ?_)
        · rw [if_neg c31] at hR
          refine lv_aload hx hb d_LC_seal_44 (lv_at hl 1 rfl) ?_
          refine xw_getN (C := R_VE) (T := F_VE) (N := 13) (r := 9) (i := v2) hx hb hts hi_VE hown hK hX f2 rfl rfl 1 (by decide) (xs_N h0 hW0 m_85) rfl rfl d_LC_seal_46 ?_
          refine lv_iload_n hx hb d_LC_seal_49 rfl (lv_at hl 4 rfl) ?_
          refine lv_iload hx hb d_LC_seal_50 (lv_at hl 0 rfl) ?_
          refine xw_zast (r := 11) (i := v2) (ent' := XE dA (xB s0) (xuI σ 11 v2 cup.toNatClampNeg (vp_nar .boolean (0 : Int32)))) hx hb hK xInj hX hS (xA_in _ _ _) f2 1 rfl rfl (j := cup) f8 ((xe_uI dA (xB s0) σ 11 v2 cup.toNatClampNeg (vp_nar .boolean (0 : Int32))).trans rfl) (xe_oI dA (xB s0) σ 11 v2 cup.toNatClampNeg (vp_nar .boolean (0 : Int32))) d_LC_seal_52 (fun H locs hX hS => ?_)
          subst hR
          refine W.widen (k := 3) (n := 18) (by decide) (by decide) ?_; exact xs_v hx hb hr hlocks hX hS d_LC_seal_53
        · rw [if_pos c31] at hR
          obtain ⟨qs, hqs⟩ := xs_str h0 hW0 (own := "LoadChecks") (k := 153) (tx := "the seal is so already") (by decide +kernel); subst hR; refine W.widen (k := 2) (n := 12) (by decide) (by decide) ?_; exact x_throw hx hb h0.1 hown hlocks hnt (hl.1.trans hml.symm) (hts _ w_314) (hts _ w_45) hqs (x_own hO rfl (oa_ISE h0)) (by decide +kernel) (by decide +kernel) d_LC_seal_34 d_LC_seal_37 d_LC_seal_38 d_LC_seal_40 d_LC_seal_43 (Nat.le_of_ble_eq_true rfl) (Nat.le_of_ble_eq_true rfl) (Nat.le_of_ble_eq_true rfl) (Nat.le_of_ble_eq_true rfl) (fun x t h1 h2 => Or.inr ⟨_, x, rfl, rfl, h1, h2⟩)
      · rw [if_pos c12] at hR
        refine lv_iconst (v := 1) hx hb d_LC_seal_15 (by decide) ?_
        refine lv_goto (tgt := 20) hx hb d_LC_seal_16 (by decide) ?_
        refine lv_istore (lv' := [(5, .int (1 : Int32)), (4, .ref (xB s0 + XA 9 v2)), (0, .ref (xB s0 + XA 0 0)), (1, .int v), (2, .int cup), (3, .int b)]) hx hb d_LC_seal_20 hl (by decide) rfl (fun ls hl => ?_)
        refine lv_aload hx hb d_LC_seal_22 (lv_at hl 1 rfl) ?_
        refine xw_getN (C := R_VE) (T := F_VE) (N := 13) (r := 9) (i := v2) hx hb hts hi_VE hown hK hX f2 rfl rfl 1 (by decide) (xs_N h0 hW0 m_85) rfl rfl d_LC_seal_24 ?_
        refine lv_iload_n hx hb d_LC_seal_27 rfl (lv_at hl 4 rfl) ?_
        refine xw_zald (r := 11) (i := v2) hx hb hK hX f2 1 rfl rfl (j := cup) f8 d_LC_seal_28 ?_
        refine lv_iload hx hb d_LC_seal_29 (lv_at hl 0 rfl) ?_
        refine lv_icmp_ne (tgt := 44) hx hb d_LC_seal_31 (by decide) (fun c31 => ?_) (fun c31 => ?_)
        · rw [if_neg c31] at hR
          refine lv_aload hx hb d_LC_seal_44 (lv_at hl 1 rfl) ?_
          refine xw_getN (C := R_VE) (T := F_VE) (N := 13) (r := 9) (i := v2) hx hb hts hi_VE hown hK hX f2 rfl rfl 1 (by decide) (xs_N h0 hW0 m_85) rfl rfl d_LC_seal_46 ?_
          refine lv_iload_n hx hb d_LC_seal_49 rfl (lv_at hl 4 rfl) ?_
          refine lv_iload hx hb d_LC_seal_50 (lv_at hl 0 rfl) ?_
          refine xw_zast (r := 11) (i := v2) (ent' := XE dA (xB s0) (xuI σ 11 v2 cup.toNatClampNeg (vp_nar .boolean (1 : Int32)))) hx hb hK xInj hX hS (xA_in _ _ _) f2 1 rfl rfl (j := cup) f8 ((xe_uI dA (xB s0) σ 11 v2 cup.toNatClampNeg (vp_nar .boolean (1 : Int32))).trans rfl) (xe_oI dA (xB s0) σ 11 v2 cup.toNatClampNeg (vp_nar .boolean (1 : Int32))) d_LC_seal_52 (fun H locs hX hS => ?_)
          subst hR
          refine W.widen (k := 3) (n := 18) (by decide) (by decide) ?_; exact xs_v hx hb hr hlocks hX hS d_LC_seal_53
        · rw [if_pos c31] at hR
          obtain ⟨qs, hqs⟩ := xs_str h0 hW0 (own := "LoadChecks") (k := 153) (tx := "the seal is so already") (by decide +kernel); subst hR; refine W.widen (k := 2) (n := 12) (by decide) (by decide) ?_; exact x_throw hx hb h0.1 hown hlocks hnt (hl.1.trans hml.symm) (hts _ w_314) (hts _ w_45) hqs (x_own hO rfl (oa_ISE h0)) (by decide +kernel) (by decide +kernel) d_LC_seal_34 d_LC_seal_37 d_LC_seal_38 d_LC_seal_40 d_LC_seal_43 (Nat.le_of_ble_eq_true rfl) (Nat.le_of_ble_eq_true rfl) (Nat.le_of_ble_eq_true rfl) (Nat.le_of_ble_eq_true rfl) (fun x t h1 h2 => Or.inr ⟨_, x, rfl, rfl, h1, h2⟩)
    · rw [hM8] at hR
      dsimp only [xbp] at hR
      subst hR
      refine xt_wid (k := 3) (n := 18) (by decide) (by decide) ?_
      exact xt_s hlocks hnt hE8 he8 (fun q h => by cases h)
  · rw [hM2] at hR
    dsimp only [xbp] at hR
    subst hR
    refine xt_wid (k := 3) (n := 18) (by decide) (by decide) ?_
    exact xt_s hlocks hnt hE2 he2 (fun q h => by cases h)

abbrev rm_LC_check : Room := { frames := 7, cells := 1, slots := 6, locals := 103 }
def S_LC_check (σ : XS) (v : Int32) : (Unit × XS) ⊕ String := (xbp (S_LC_knownVehicle σ v) fun v2 => .inl ((), (xuI (xuI σ 9 v2 9 (σ.1 0 0 7)) 9 v2 10 ((xuI σ 9 v2 9 (σ.1 0 0 7)).1 0 0 8))))
set_option maxHeartbeats 4000000 in
set_option maxRecDepth 100000 in
theorem c_LC_check {l : Launch} {s0 : State} {A0 : Array Value} {D : va_G} {dA : Nat → ClassId} (h0 : XS0 l s0 A0 D dA) (σ : XS) (v : Int32) (hok : XOk σ) : XMet l y_LC_check [cw_LC_check] rm_LC_check (XP D dA s0 σ [.ref (xB s0 + XA 0 0), .int v]) (XQs D dA s0 xv_v (S_LC_check σ v)) 1 6 (xAm s0) := by
  refine XMet.ofW (cc := b_LC_check) (maxL := 3) (ret := none) (by decide) rfl ?_
  intro p e s m args below meth c s₁ Bd hml hvA
  obtain ⟨rfl, hX, hO⟩ := hvA
  have hx := Bd.exec
  have hb := Bd.bytes
  have hr := Bd.returns
  have hown : s.vm.findClass "LoadChecks" = some m.cls := findClass_of_methodNamed Bd.named
  have hlocks := Bd.notSynchronized
  have hnt : c.exceptionTable.isEmpty = true := Bd.noHandlers (atoms_spec (ws := [cw_LC_check]) Bd.pre _ List.mem_cons_self)
  have hW0 := hO.1
  have hts := xs_w (args := ([.ref (xB s0 + XA 0 0), .int v] : List Value).toArray) h0 hW0
  have hK := xs_K h0 hW0
  have hS := xo_S0 hO
  have hl := lv_entry ([.ref (xB s0 + XA 0 0), .int v]) (n := 3) (Nat.le_of_ble_eq_true rfl)
  rw [lg_entry_eq]
  generalize (lg_sl ([.ref (xB s0 + XA 0 0), .int v]) ++ List.replicate (3 - (lg_sl ([.ref (xB s0 + XA 0 0), .int v])).length) Slot.unset).toArray = ls at hl ⊢
  have hl : lv_has ls 3 [(0, .ref (xB s0 + XA 0 0)), (1, .int v)] := hl
  generalize hR : S_LC_check σ v = res
  unfold S_LC_check at hR
  refine lv_aload_n hx hb d_LC_check_0 rfl (lv_at hl 0 rfl) ?_
  refine lv_iload_n hx hb d_LC_check_1 rfl (lv_at hl 1 rfl) ?_
  obtain ⟨cB2, hcB2, hoB2, hkB2⟩ := xw_recv (r := 0) (i := 0) hK hX (by decide) rfl rfl
  refine xc_p (rest := []) (x_invV (argsL := [.int v]) hx hb hown (hts _ w_290) (hts _ w_292) (hts _ w_1) (x_code (hts _ w_293)) ⟨by decide, by decide⟩ hcB2 hoB2 hkB2 rfl rfl rfl d_LC_check_2) (c_LC_knownVehicle h0 σ v hok) (xs_cw h0 hW0 m_293) (hts _ w_34) ⟨rfl, rfl, Nat.le_of_ble_eq_true rfl, Nat.le_of_ble_eq_true rfl⟩ (hl.1.trans hml.symm) (by rw [hb]; exact d_LC_check_2) (Nat.le_of_ble_eq_true rfl) ⟨Nat.le_of_ble_eq_true rfl, Nat.le_of_ble_eq_true rfl⟩ hX ⟨hW0, xo_S hS⟩ (fun v2 hM2 => ?_) (fun E2 x2 H2 hM2 hE2 he2 => ?_)
  · rw [hM2] at hR
    dsimp only [xbp] at hR
    have f2 := f_known hok hM2
    refine lv_astore_n (lv' := [(2, .ref (xB s0 + XA 9 v2)), (0, .ref (xB s0 + XA 0 0)), (1, .int v)]) hx hb d_LC_check_5 rfl hl (by decide) rfl (fun ls hl => ?_)
    refine lv_aload_n hx hb d_LC_check_6 rfl (lv_at hl 0 rfl) ?_
    refine lv_aload_n hx hb d_LC_check_7 rfl (lv_at hl 1 rfl) ?_
    refine xw_get (C := R_LC) (T := F_LC) (N := 9) (r := 0) (i := 0) hx hb hts hi_LC hown hK hX (by decide) rfl rfl 7 (by decide) (hts _ w_140) rfl rfl d_LC_check_8 ?_
    refine xw_putN (C := R_VE) (T := F_VE) (N := 13) (r := 9) (i := v2) (ent' := XE dA (xB s0) (xuI σ 9 v2 9 (σ.1 0 0 7))) hx hb hts hi_VE t_VE t_VE_ok n_VE hown hK xInj hX hS (xA_in _ _ _) f2 rfl rfl 9 (by decide) (xs_N h0 hW0 m_100) rfl rfl rfl rfl (Nat.le_of_ble_eq_true rfl) ((xe_uI dA (xB s0) σ 9 v2 9 (σ.1 0 0 7)).trans rfl) (xe_oI dA (xB s0) σ 9 v2 9 (σ.1 0 0 7)) d_LC_check_11 (fun H locs hX hS => ?_)
    refine lv_aload_n hx hb d_LC_check_14 rfl (lv_at hl 0 rfl) ?_
    refine lv_aload_n hx hb d_LC_check_15 rfl (lv_at hl 1 rfl) ?_
    refine xw_get (C := R_LC) (T := F_LC) (N := 9) (r := 0) (i := 0) hx hb hts hi_LC hown hK hX (by decide) rfl rfl 8 (by decide) (hts _ w_141) rfl rfl d_LC_check_16 ?_
    refine xw_putN (C := R_VE) (T := F_VE) (N := 13) (r := 9) (i := v2) (ent' := XE dA (xB s0) (xuI (xuI σ 9 v2 9 (σ.1 0 0 7)) 9 v2 10 ((xuI σ 9 v2 9 (σ.1 0 0 7)).1 0 0 8))) hx hb hts hi_VE t_VE t_VE_ok n_VE hown hK xInj hX hS (xA_in _ _ _) f2 rfl rfl 10 (by decide) (xs_N h0 hW0 m_102) rfl rfl rfl rfl (Nat.le_of_ble_eq_true rfl) ((xe_uI dA (xB s0) (xuI σ 9 v2 9 (σ.1 0 0 7)) 9 v2 10 ((xuI σ 9 v2 9 (σ.1 0 0 7)).1 0 0 8)).trans rfl) (xe_oI dA (xB s0) (xuI σ 9 v2 9 (σ.1 0 0 7)) 9 v2 10 ((xuI σ 9 v2 9 (σ.1 0 0 7)).1 0 0 8)) d_LC_check_19 (fun H locs hX hS => ?_)
    subst hR
    refine W.widen (k := 1) (n := 6) (by decide) (by decide) ?_; exact xs_v hx hb hr hlocks hX hS d_LC_check_22
  · rw [hM2] at hR
    dsimp only [xbp] at hR
    subst hR
    refine xt_wid (k := 1) (n := 6) (by decide) (by decide) ?_
    exact xt_s hlocks hnt hE2 he2 (fun q h => by cases h)

abbrev rm_LC_now : Room := { frames := 7, cells := 2, slots := 12, locals := 104 }
def S_LC_now (σ : XS) (d : Int32) (sh : Int32) : (Unit × XS) ⊕ String := (xbp (S_LC_requireRange σ d (σ.1 0 0 7) (9999 : Int32)) fun _ => (if d = (σ.1 0 0 7) then (xbp (S_LC_requireRange σ sh (σ.1 0 0 8) (2 : Int32)) fun _ => .inl ((), (xuI (xuI σ 0 0 7 d) 0 0 8 sh))) else (xbp (S_LC_requireRange σ sh (0 : Int32) (2 : Int32)) fun _ => .inl ((), (xuI (xuI σ 0 0 7 d) 0 0 8 sh)))))
set_option maxHeartbeats 4000000 in
set_option maxRecDepth 100000 in
theorem c_LC_now {l : Launch} {s0 : State} {A0 : Array Value} {D : va_G} {dA : Nat → ClassId} (h0 : XS0 l s0 A0 D dA) (σ : XS) (d : Int32) (sh : Int32)  : XMet l y_LC_now [cw_LC_now] rm_LC_now (XP D dA s0 σ [.ref (xB s0 + XA 0 0), .int d, .int sh]) (XQs D dA s0 xv_v (S_LC_now σ d sh)) 2 12 (xAm s0) := by
  refine XMet.ofW (cc := b_LC_now) (maxL := 4) (ret := none) (by decide) rfl ?_
  intro p e s m args below meth c s₁ Bd hml hvA
  obtain ⟨rfl, hX, hO⟩ := hvA
  have hx := Bd.exec
  have hb := Bd.bytes
  have hr := Bd.returns
  have hown : s.vm.findClass "LoadChecks" = some m.cls := findClass_of_methodNamed Bd.named
  have hlocks := Bd.notSynchronized
  have hnt : c.exceptionTable.isEmpty = true := Bd.noHandlers (atoms_spec (ws := [cw_LC_now]) Bd.pre _ List.mem_cons_self)
  have hW0 := hO.1
  have hts := xs_w (args := ([.ref (xB s0 + XA 0 0), .int d, .int sh] : List Value).toArray) h0 hW0
  have hK := xs_K h0 hW0
  have hS := xo_S0 hO
  have hl := lv_entry ([.ref (xB s0 + XA 0 0), .int d, .int sh]) (n := 4) (Nat.le_of_ble_eq_true rfl)
  rw [lg_entry_eq]
  generalize (lg_sl ([.ref (xB s0 + XA 0 0), .int d, .int sh]) ++ List.replicate (4 - (lg_sl ([.ref (xB s0 + XA 0 0), .int d, .int sh])).length) Slot.unset).toArray = ls at hl ⊢
  have hl : lv_has ls 4 [(0, .ref (xB s0 + XA 0 0)), (1, .int d), (2, .int sh)] := hl
  generalize hR : S_LC_now σ d sh = res
  unfold S_LC_now at hR
  refine lv_iload_n hx hb d_LC_now_0 rfl (lv_at hl 1 rfl) ?_
  refine lv_aload_n hx hb d_LC_now_1 rfl (lv_at hl 0 rfl) ?_
  refine xw_get (C := R_LC) (T := F_LC) (N := 9) (r := 0) (i := 0) hx hb hts hi_LC hown hK hX (by decide) rfl rfl 7 (by decide) (hts _ w_140) rfl rfl d_LC_now_2 ?_
  refine lv_sipush (v := 9999) hx hb d_LC_now_5 (by decide) ?_
  refine xc_p (rest := []) (x_invS (argsL := [.int d, .int (σ.1 0 0 7), .int (9999 : Int32)]) hx hb hown (hts _ w_244) (hts _ w_245) (hts _ w_34) (x_code (hts _ w_246)) ⟨by decide, by decide⟩ rfl rfl rfl d_LC_now_8) (c_LC_requireRange h0 σ d (σ.1 0 0 7) (9999 : Int32)) (xs_cw h0 hW0 m_246) (hts _ w_34) ⟨rfl, rfl, Nat.le_of_ble_eq_true rfl, Nat.le_of_ble_eq_true rfl⟩ (hl.1.trans hml.symm) (by rw [hb]; exact d_LC_now_8) (Nat.le_of_ble_eq_true rfl) ⟨Nat.le_of_ble_eq_true rfl, Nat.le_of_ble_eq_true rfl⟩ hX ⟨hW0, xo_S hS⟩ (fun v8 hM8 => ?_) (fun E8 x8 H8 hM8 hE8 he8 => ?_)
  · rw [hM8] at hR
    dsimp only [xbp] at hR
    refine lv_iload_n hx hb d_LC_now_11 rfl (lv_at hl 1 rfl) ?_
    refine lv_aload_n hx hb d_LC_now_12 rfl (lv_at hl 0 rfl) ?_
    refine xw_get (C := R_LC) (T := F_LC) (N := 9) (r := 0) (i := 0) hx hb hts hi_LC hown hK hX (by decide) rfl rfl 7 (by decide) (hts _ w_140) rfl rfl d_LC_now_13 ?_
    refine lv_icmp_ne (tgt := 26) hx hb d_LC_now_16 (by decide) (fun c16 => ?_) (fun c16 => ?_)
    · rw [if_neg c16] at hR
      refine lv_iconst (v := 0) hx hb d_LC_now_26 (by decide) ?_
      refine lv_istore_n (lv' := [(3, .int (0 : Int32)), (0, .ref (xB s0 + XA 0 0)), (1, .int d), (2, .int sh)]) hx hb d_LC_now_27 rfl hl (by decide) rfl (fun ls hl => ?_)
      refine lv_iload_n hx hb d_LC_now_28 rfl (lv_at hl 3 rfl) ?_
      refine lv_iload_n hx hb d_LC_now_29 rfl (lv_at hl 0 rfl) ?_
      refine lv_iconst (v := 2) hx hb d_LC_now_30 (by decide) ?_
      refine xc_p (rest := []) (x_invS (argsL := [.int sh, .int (0 : Int32), .int (2 : Int32)]) hx hb hown (hts _ w_244) (hts _ w_245) (hts _ w_34) (x_code (hts _ w_246)) ⟨by decide, by decide⟩ rfl rfl rfl d_LC_now_31) (c_LC_requireRange h0 σ sh (0 : Int32) (2 : Int32)) (xs_cw h0 hW0 m_246) (hts _ w_34) ⟨rfl, rfl, Nat.le_of_ble_eq_true rfl, Nat.le_of_ble_eq_true rfl⟩ (hl.1.trans hml.symm) (by rw [hb]; exact d_LC_now_31) (Nat.le_of_ble_eq_true rfl) ⟨Nat.le_of_ble_eq_true rfl, Nat.le_of_ble_eq_true rfl⟩ hX ⟨hW0, xo_S hS⟩ (fun v31 hM31 => ?_) (fun E31 x31 H31 hM31 hE31 he31 => ?_)
      · rw [hM31] at hR
        dsimp only [xbp] at hR
        refine lv_aload_n hx hb d_LC_now_34 rfl (lv_at hl 1 rfl) ?_
        refine lv_iload_n hx hb d_LC_now_35 rfl (lv_at hl 2 rfl) ?_
        refine xw_put (C := R_LC) (T := F_LC) (N := 9) (r := 0) (i := 0) (ent' := XE dA (xB s0) (xuI σ 0 0 7 d)) hx hb hts hi_LC t_LC t_LC_ok n_LC hown hK xInj hX hS (xA_in _ _ _) (by decide) rfl rfl 7 (by decide) (hts _ w_140) rfl rfl rfl rfl (Nat.le_of_ble_eq_true rfl) ((xe_uI dA (xB s0) σ 0 0 7 d).trans rfl) (xe_oI dA (xB s0) σ 0 0 7 d) d_LC_now_36 (fun H locs hX hS => ?_)
        refine lv_aload_n hx hb d_LC_now_39 rfl (lv_at hl 1 rfl) ?_
        refine lv_iload_n hx hb d_LC_now_40 rfl (lv_at hl 3 rfl) ?_
        refine xw_put (C := R_LC) (T := F_LC) (N := 9) (r := 0) (i := 0) (ent' := XE dA (xB s0) (xuI (xuI σ 0 0 7 d) 0 0 8 sh)) hx hb hts hi_LC t_LC t_LC_ok n_LC hown hK xInj hX hS (xA_in _ _ _) (by decide) rfl rfl 8 (by decide) (hts _ w_141) rfl rfl rfl rfl (Nat.le_of_ble_eq_true rfl) ((xe_uI dA (xB s0) (xuI σ 0 0 7 d) 0 0 8 sh).trans rfl) (xe_oI dA (xB s0) (xuI σ 0 0 7 d) 0 0 8 sh) d_LC_now_41 (fun H locs hX hS => ?_)
        subst hR
        refine W.widen (k := 2) (n := 12) (by decide) (by decide) ?_; exact xs_v hx hb hr hlocks hX hS d_LC_now_44
      · rw [hM31] at hR
        dsimp only [xbp] at hR
        subst hR
        refine xt_wid (k := 2) (n := 12) (by decide) (by decide) ?_
        exact xt_s hlocks hnt hE31 he31 (fun q h => by cases h)
    · rw [if_pos c16] at hR
      refine lv_aload_n hx hb d_LC_now_19 rfl (lv_at hl 0 rfl) ?_
      refine xw_get (C := R_LC) (T := F_LC) (N := 9) (r := 0) (i := 0) hx hb hts hi_LC hown hK hX (by decide) rfl rfl 8 (by decide) (hts _ w_141) rfl rfl d_LC_now_20 ?_
      refine lv_goto (tgt := 27) hx hb d_LC_now_23 (by decide) ?_
      refine lv_istore_n (lv' := [(3, .int (σ.1 0 0 8)), (0, .ref (xB s0 + XA 0 0)), (1, .int d), (2, .int sh)]) hx hb d_LC_now_27 rfl hl (by decide) rfl (fun ls hl => ?_)
      refine lv_iload_n hx hb d_LC_now_28 rfl (lv_at hl 3 rfl) ?_
      refine lv_iload_n hx hb d_LC_now_29 rfl (lv_at hl 0 rfl) ?_
      refine lv_iconst (v := 2) hx hb d_LC_now_30 (by decide) ?_
      refine xc_p (rest := []) (x_invS (argsL := [.int sh, .int (σ.1 0 0 8), .int (2 : Int32)]) hx hb hown (hts _ w_244) (hts _ w_245) (hts _ w_34) (x_code (hts _ w_246)) ⟨by decide, by decide⟩ rfl rfl rfl d_LC_now_31) (c_LC_requireRange h0 σ sh (σ.1 0 0 8) (2 : Int32)) (xs_cw h0 hW0 m_246) (hts _ w_34) ⟨rfl, rfl, Nat.le_of_ble_eq_true rfl, Nat.le_of_ble_eq_true rfl⟩ (hl.1.trans hml.symm) (by rw [hb]; exact d_LC_now_31) (Nat.le_of_ble_eq_true rfl) ⟨Nat.le_of_ble_eq_true rfl, Nat.le_of_ble_eq_true rfl⟩ hX ⟨hW0, xo_S hS⟩ (fun v31 hM31 => ?_) (fun E31 x31 H31 hM31 hE31 he31 => ?_)
      · rw [hM31] at hR
        dsimp only [xbp] at hR
        refine lv_aload_n hx hb d_LC_now_34 rfl (lv_at hl 1 rfl) ?_
        refine lv_iload_n hx hb d_LC_now_35 rfl (lv_at hl 2 rfl) ?_
        refine xw_put (C := R_LC) (T := F_LC) (N := 9) (r := 0) (i := 0) (ent' := XE dA (xB s0) (xuI σ 0 0 7 d)) hx hb hts hi_LC t_LC t_LC_ok n_LC hown hK xInj hX hS (xA_in _ _ _) (by decide) rfl rfl 7 (by decide) (hts _ w_140) rfl rfl rfl rfl (Nat.le_of_ble_eq_true rfl) ((xe_uI dA (xB s0) σ 0 0 7 d).trans rfl) (xe_oI dA (xB s0) σ 0 0 7 d) d_LC_now_36 (fun H locs hX hS => ?_)
        refine lv_aload_n hx hb d_LC_now_39 rfl (lv_at hl 1 rfl) ?_
        refine lv_iload_n hx hb d_LC_now_40 rfl (lv_at hl 3 rfl) ?_
        refine xw_put (C := R_LC) (T := F_LC) (N := 9) (r := 0) (i := 0) (ent' := XE dA (xB s0) (xuI (xuI σ 0 0 7 d) 0 0 8 sh)) hx hb hts hi_LC t_LC t_LC_ok n_LC hown hK xInj hX hS (xA_in _ _ _) (by decide) rfl rfl 8 (by decide) (hts _ w_141) rfl rfl rfl rfl (Nat.le_of_ble_eq_true rfl) ((xe_uI dA (xB s0) (xuI σ 0 0 7 d) 0 0 8 sh).trans rfl) (xe_oI dA (xB s0) (xuI σ 0 0 7 d) 0 0 8 sh) d_LC_now_41 (fun H locs hX hS => ?_)
        subst hR
        refine W.widen (k := 2) (n := 12) (by decide) (by decide) ?_; exact xs_v hx hb hr hlocks hX hS d_LC_now_44
      · rw [hM31] at hR
        dsimp only [xbp] at hR
        subst hR
        refine xt_wid (k := 2) (n := 12) (by decide) (by decide) ?_
        exact xt_s hlocks hnt hE31 he31 (fun q h => by cases h)
  · rw [hM8] at hR
    dsimp only [xbp] at hR
    subst hR
    refine xt_wid (k := 2) (n := 12) (by decide) (by decide) ?_
    exact xt_s hlocks hnt hE8 he8 (fun q h => by cases h)

abbrev rm_LC_ready : Room := { frames := 7, cells := 1, slots := 6, locals := 103 }
def S_LC_ready (σ : XS) (v : Int32) : Int32 ⊕ String := (xbp (S_LC_knownVehicle σ v) fun v2 => (if (σ.1 9 v2 9) = (σ.1 0 0 7) then (if (σ.1 9 v2 10) = (σ.1 0 0 8) then (if (S_VE_missingCell σ v2 ((σ.1 9 v2 5).toNatClampNeg) (0 : Int32)) = (-1 : Int32) then (if (S_VE_hasBrokenSeal σ v2) = 0 then (if (S_VE_needsPastItem σ v2 ((σ.1 9 v2 5).toNatClampNeg) (σ.1 0 0 7)) = 0 then (if (S_VE_needsWeakItem σ v2 ((σ.1 9 v2 5).toNatClampNeg)) = 0 then (if (S_VE_isBeyond σ v2) = 0 then .inl (0 : Int32) else .inl (6 : Int32)) else .inl (5 : Int32)) else .inl (4 : Int32)) else .inl (3 : Int32)) else .inl (2 : Int32)) else .inl (1 : Int32)) else .inl (1 : Int32)))
set_option maxHeartbeats 4000000 in
set_option maxRecDepth 100000 in
theorem c_LC_ready {l : Launch} {s0 : State} {A0 : Array Value} {D : va_G} {dA : Nat → ClassId} (h0 : XS0 l s0 A0 D dA) (σ : XS) (v : Int32) (hok : XOk σ) : XMet l y_LC_ready [cw_LC_ready] rm_LC_ready (XP D dA s0 σ [.ref (xB s0 + XA 0 0), .int v]) (XQp xv_i (S_LC_ready σ v)) 1 6 (fun _ => False) := by
  refine XMet.ofW (cc := b_LC_ready) (maxL := 4) (ret := (some .int)) (by decide) rfl ?_
  intro p e s m args below meth c s₁ Bd hml hvA
  obtain ⟨rfl, hX, hO⟩ := hvA
  have hx := Bd.exec
  have hb := Bd.bytes
  have hr := Bd.returns
  have hown : s.vm.findClass "LoadChecks" = some m.cls := findClass_of_methodNamed Bd.named
  have hlocks := Bd.notSynchronized
  have hnt : c.exceptionTable.isEmpty = true := Bd.noHandlers (atoms_spec (ws := [cw_LC_ready]) Bd.pre _ List.mem_cons_self)
  have hW0 := hO.1
  have hts := xs_w (args := ([.ref (xB s0 + XA 0 0), .int v] : List Value).toArray) h0 hW0
  have hK := xs_K h0 hW0
  have hl := lv_entry ([.ref (xB s0 + XA 0 0), .int v]) (n := 4) (Nat.le_of_ble_eq_true rfl)
  rw [lg_entry_eq]
  generalize (lg_sl ([.ref (xB s0 + XA 0 0), .int v]) ++ List.replicate (4 - (lg_sl ([.ref (xB s0 + XA 0 0), .int v])).length) Slot.unset).toArray = ls at hl ⊢
  have hl : lv_has ls 4 [(0, .ref (xB s0 + XA 0 0)), (1, .int v)] := hl
  generalize hR : S_LC_ready σ v = res
  unfold S_LC_ready at hR
  refine lv_aload_n hx hb d_LC_ready_0 rfl (lv_at hl 0 rfl) ?_
  refine lv_iload_n hx hb d_LC_ready_1 rfl (lv_at hl 1 rfl) ?_
  obtain ⟨cB2, hcB2, hoB2, hkB2⟩ := xw_recv (r := 0) (i := 0) hK hX (by decide) rfl rfl
  refine xc_p (rest := []) (x_invV (argsL := [.int v]) hx hb hown (hts _ w_290) (hts _ w_292) (hts _ w_1) (x_code (hts _ w_293)) ⟨by decide, by decide⟩ hcB2 hoB2 hkB2 rfl rfl rfl d_LC_ready_2) (c_LC_knownVehicle h0 σ v hok) (xs_cw h0 hW0 m_293) (hts _ w_34) ⟨rfl, rfl, Nat.le_of_ble_eq_true rfl, Nat.le_of_ble_eq_true rfl⟩ (hl.1.trans hml.symm) (by rw [hb]; exact d_LC_ready_2) (Nat.le_of_ble_eq_true rfl) ⟨Nat.le_of_ble_eq_true rfl, Nat.le_of_ble_eq_true rfl⟩ hX hO (fun v2 hM2 => ?_) (fun E2 x2 H2 hM2 hE2 he2 => ?_)
  · rw [hM2] at hR
    dsimp only [xbp] at hR
    have f2 := f_known hok hM2
    refine lv_astore_n (lv' := [(2, .ref (xB s0 + XA 9 v2)), (0, .ref (xB s0 + XA 0 0)), (1, .int v)]) hx hb d_LC_ready_5 rfl hl (by decide) rfl (fun ls hl => ?_)
    refine lv_aload_n hx hb d_LC_ready_6 rfl (lv_at hl 1 rfl) ?_
    refine xw_get (C := R_LC) (T := F_LC) (N := 9) (r := 0) (i := 0) hx hb hts hi_LC hown hK hX (by decide) rfl rfl 3 (by decide) (hts _ w_136) rfl rfl d_LC_ready_7 ?_
    refine lv_aload_n hx hb d_LC_ready_10 rfl (lv_at hl 0 rfl) ?_
    refine xw_getN (C := R_VE) (T := F_VE) (N := 13) (r := 9) (i := v2) hx hb hts hi_VE hown hK hX f2 rfl rfl 5 (by decide) (xs_N h0 hW0 m_92) rfl rfl d_LC_ready_11 ?_
    refine xw_aald (r := 4) (i := 0) hx hb hK hX (by decide) 3 rfl rfl rfl (j := (σ.1 9 v2 5)) (hok.2.1 _ f2) rfl d_LC_ready_14 ?_
    refine lv_astore_n (lv' := [(3, .ref (xB s0 + XA 5 ((σ.1 9 v2 5).toNatClampNeg))), (2, .ref (xB s0 + XA 9 v2)), (0, .ref (xB s0 + XA 0 0)), (1, .int v)]) hx hb d_LC_ready_15 rfl hl (by decide) rfl (fun ls hl => ?_)
    refine lv_aload_n hx hb d_LC_ready_16 rfl (lv_at hl 1 rfl) ?_
    refine xw_getN (C := R_VE) (T := F_VE) (N := 13) (r := 9) (i := v2) hx hb hts hi_VE hown hK hX f2 rfl rfl 9 (by decide) (xs_N h0 hW0 m_100) rfl rfl d_LC_ready_17 ?_
    refine lv_aload_n hx hb d_LC_ready_20 rfl (lv_at hl 2 rfl) ?_
    refine xw_get (C := R_LC) (T := F_LC) (N := 9) (r := 0) (i := 0) hx hb hts hi_LC hown hK hX (by decide) rfl rfl 7 (by decide) (hts _ w_140) rfl rfl d_LC_ready_21 ?_
    refine lv_icmp_ne (tgt := 38) hx hb d_LC_ready_24 (by decide) (fun c24 => ?_) (fun c24 => ?_)
    · rw [if_neg c24] at hR
      refine lv_iconst (v := 1) hx hb d_LC_ready_38 (by decide) ?_
      subst hR
      refine W.widen (k := 1) (n := 6) (by decide) (by decide) ?_; exact xr_i hx hb hr hlocks d_LC_ready_39
    · rw [if_pos c24] at hR
      refine lv_aload_n hx hb d_LC_ready_27 rfl (lv_at hl 1 rfl) ?_
      refine xw_getN (C := R_VE) (T := F_VE) (N := 13) (r := 9) (i := v2) hx hb hts hi_VE hown hK hX f2 rfl rfl 10 (by decide) (xs_N h0 hW0 m_102) rfl rfl d_LC_ready_28 ?_
      refine lv_aload_n hx hb d_LC_ready_31 rfl (lv_at hl 2 rfl) ?_
      refine xw_get (C := R_LC) (T := F_LC) (N := 9) (r := 0) (i := 0) hx hb hts hi_LC hown hK hX (by decide) rfl rfl 8 (by decide) (hts _ w_141) rfl rfl d_LC_ready_32 ?_
      refine lv_icmp_eq (tgt := 40) hx hb d_LC_ready_35 (by decide) (fun c35 => ?_) (fun c35 => ?_)
      · rw [if_pos c35] at hR
        refine lv_aload_n hx hb d_LC_ready_40 rfl (lv_at hl 1 rfl) ?_
        refine lv_aload_n hx hb d_LC_ready_41 rfl (lv_at hl 0 rfl) ?_
        refine lv_iconst (v := 0) hx hb d_LC_ready_42 (by decide) ?_
        obtain ⟨cB43, hcB43, hoB43, hkB43⟩ := xw_recv (r := 9) (i := v2) hK hX f2 rfl rfl
        refine xc_f (rest := []) (x_invVN (argsL := [.ref (xB s0 + XA 5 ((σ.1 9 v2 5).toNatClampNeg)), .int (0 : Int32)]) hx hb hown (xs_M h0 hW0 m_487) (hts _ w_489) (hts _ w_13) (x_code (hts _ w_490)) ⟨by decide, by decide⟩ hcB43 hoB43 hkB43 rfl rfl rfl d_LC_ready_43) (c_VE_missingCell h0 σ v2 ((σ.1 9 v2 5).toNatClampNeg) (0 : Int32) f2 (vp_lt (hok.2.1 _ f2))) (xs_cw h0 hW0 m_490) (hts _ w_36) ⟨rfl, rfl, Nat.le_of_ble_eq_true rfl, Nat.le_of_ble_eq_true rfl⟩ (hl.1.trans hml.symm) (by rw [hb]; exact d_LC_ready_43) (Nat.le_of_ble_eq_true rfl) ⟨Nat.le_of_ble_eq_true rfl, Nat.le_of_ble_eq_true rfl⟩ hX hO ?_
        refine lv_iconst (v := -1) hx hb d_LC_ready_46 (by decide) ?_
        refine lv_icmp_eq (tgt := 52) hx hb d_LC_ready_47 (by decide) (fun c47 => ?_) (fun c47 => ?_)
        · rw [if_pos c47] at hR
          refine lv_aload_n hx hb d_LC_ready_52 rfl (lv_at hl 1 rfl) ?_
          obtain ⟨cB53, hcB53, hoB53, hkB53⟩ := xw_recv (r := 9) (i := v2) hK hX f2 rfl rfl
          refine xc_f (rest := []) (x_invVN (argsL := []) hx hb hown (xs_M h0 hW0 m_492) (hts _ w_494) (hts _ w_14) (x_code (hts _ w_495)) ⟨by decide, by decide⟩ hcB53 hoB53 hkB53 rfl rfl rfl d_LC_ready_53) (c_VE_hasBrokenSeal h0 σ v2 f2) (xs_cw h0 hW0 m_495) (hts _ w_36) ⟨rfl, rfl, Nat.le_of_ble_eq_true rfl, Nat.le_of_ble_eq_true rfl⟩ (hl.1.trans hml.symm) (by rw [hb]; exact d_LC_ready_53) (Nat.le_of_ble_eq_true rfl) ⟨Nat.le_of_ble_eq_true rfl, Nat.le_of_ble_eq_true rfl⟩ hX hO ?_
          refine lv_if_eq (tgt := 61) hx hb d_LC_ready_56 (by decide) (fun c56 => ?_) (fun c56 => ?_)
          · rw [if_pos c56] at hR
            refine lv_aload_n hx hb d_LC_ready_61 rfl (lv_at hl 1 rfl) ?_
            refine lv_aload_n hx hb d_LC_ready_62 rfl (lv_at hl 0 rfl) ?_
            refine lv_aload_n hx hb d_LC_ready_63 rfl (lv_at hl 2 rfl) ?_
            refine xw_get (C := R_LC) (T := F_LC) (N := 9) (r := 0) (i := 0) hx hb hts hi_LC hown hK hX (by decide) rfl rfl 7 (by decide) (hts _ w_140) rfl rfl d_LC_ready_64 ?_
            obtain ⟨cB67, hcB67, hoB67, hkB67⟩ := xw_recv (r := 9) (i := v2) hK hX f2 rfl rfl
            refine xc_f (rest := []) (x_invVN (argsL := [.ref (xB s0 + XA 5 ((σ.1 9 v2 5).toNatClampNeg)), .int (σ.1 0 0 7)]) hx hb hown (xs_M h0 hW0 m_496) (hts _ w_498) (hts _ w_15) (x_code (hts _ w_499)) ⟨by decide, by decide⟩ hcB67 hoB67 hkB67 rfl rfl rfl d_LC_ready_67) (c_VE_needsPastItem h0 σ v2 ((σ.1 9 v2 5).toNatClampNeg) (σ.1 0 0 7) f2 (vp_lt (hok.2.1 _ f2))) (xs_cw h0 hW0 m_499) (hts _ w_36) ⟨rfl, rfl, Nat.le_of_ble_eq_true rfl, Nat.le_of_ble_eq_true rfl⟩ (hl.1.trans hml.symm) (by rw [hb]; exact d_LC_ready_67) (Nat.le_of_ble_eq_true rfl) ⟨Nat.le_of_ble_eq_true rfl, Nat.le_of_ble_eq_true rfl⟩ hX hO ?_
            refine lv_if_eq (tgt := 75) hx hb d_LC_ready_70 (by decide) (fun c70 => ?_) (fun c70 => ?_)
            · rw [if_pos c70] at hR
              refine lv_aload_n hx hb d_LC_ready_75 rfl (lv_at hl 1 rfl) ?_
              refine lv_aload_n hx hb d_LC_ready_76 rfl (lv_at hl 0 rfl) ?_
              refine lv_aload_n hx hb d_LC_ready_77 rfl (lv_at hl 2 rfl) ?_
              refine xw_get (C := R_LC) (T := F_LC) (N := 9) (r := 0) (i := 0) hx hb hts hi_LC hown hK hX (by decide) rfl rfl 1 (by decide) (hts _ w_134) rfl rfl d_LC_ready_78 ?_
              obtain ⟨cB81, hcB81, hoB81, hkB81⟩ := xw_recv (r := 9) (i := v2) hK hX f2 rfl rfl
              refine xc_f (rest := []) (x_invVN (argsL := [.ref (xB s0 + XA 5 ((σ.1 9 v2 5).toNatClampNeg)), .ref (xB s0 + XA 2 0)]) hx hb hown (xs_M h0 hW0 m_500) (hts _ w_502) (hts _ w_16) (x_code (hts _ w_503)) ⟨by decide, by decide⟩ hcB81 hoB81 hkB81 rfl rfl rfl d_LC_ready_81) (c_VE_needsWeakItem h0 σ v2 ((σ.1 9 v2 5).toNatClampNeg) f2 (vp_lt (hok.2.1 _ f2))) (xs_cw h0 hW0 m_503) (hts _ w_36) ⟨rfl, rfl, Nat.le_of_ble_eq_true rfl, Nat.le_of_ble_eq_true rfl⟩ (hl.1.trans hml.symm) (by rw [hb]; exact d_LC_ready_81) (Nat.le_of_ble_eq_true rfl) ⟨Nat.le_of_ble_eq_true rfl, Nat.le_of_ble_eq_true rfl⟩ hX hO ?_
              refine lv_if_eq (tgt := 89) hx hb d_LC_ready_84 (by decide) (fun c84 => ?_) (fun c84 => ?_)
              · rw [if_pos c84] at hR
                refine lv_aload_n hx hb d_LC_ready_89 rfl (lv_at hl 1 rfl) ?_
                obtain ⟨cB90, hcB90, hoB90, hkB90⟩ := xw_recv (r := 9) (i := v2) hK hX f2 rfl rfl
                refine xc_f (rest := []) (x_invVN (argsL := []) hx hb hown (xs_M h0 hW0 m_504) (hts _ w_506) (hts _ w_17) (x_code (hts _ w_507)) ⟨by decide, by decide⟩ hcB90 hoB90 hkB90 rfl rfl rfl d_LC_ready_90) (c_VE_isBeyond h0 σ v2 f2) (xs_cw h0 hW0 m_507) (hts _ w_36) ⟨rfl, rfl, Nat.le_of_ble_eq_true rfl, Nat.le_of_ble_eq_true rfl⟩ (hl.1.trans hml.symm) (by rw [hb]; exact d_LC_ready_90) (Nat.le_of_ble_eq_true rfl) ⟨Nat.le_of_ble_eq_true rfl, Nat.le_of_ble_eq_true rfl⟩ hX hO ?_
                refine lv_if_eq (tgt := 101) hx hb d_LC_ready_93 (by decide) (fun c93 => ?_) (fun c93 => ?_)
                · rw [if_pos c93] at hR
                  refine lv_iconst (v := 0) hx hb d_LC_ready_101 (by decide) ?_
                  subst hR
                  refine W.widen (k := 1) (n := 6) (by decide) (by decide) ?_; exact xr_i hx hb hr hlocks d_LC_ready_102
                · rw [if_neg c93] at hR
                  refine lv_bipush (v := 6) hx hb d_LC_ready_96 (by decide) ?_
                  refine lv_goto (tgt := 102) hx hb d_LC_ready_98 (by decide) ?_
                  subst hR
                  refine W.widen (k := 1) (n := 6) (by decide) (by decide) ?_; exact xr_i hx hb hr hlocks d_LC_ready_102
              · rw [if_neg c84] at hR
                refine lv_iconst (v := 5) hx hb d_LC_ready_87 (by decide) ?_
                subst hR
                refine W.widen (k := 1) (n := 6) (by decide) (by decide) ?_; exact xr_i hx hb hr hlocks d_LC_ready_88
            · rw [if_neg c70] at hR
              refine lv_iconst (v := 4) hx hb d_LC_ready_73 (by decide) ?_
              subst hR
              refine W.widen (k := 1) (n := 6) (by decide) (by decide) ?_; exact xr_i hx hb hr hlocks d_LC_ready_74
          · rw [if_neg c56] at hR
            refine lv_iconst (v := 3) hx hb d_LC_ready_59 (by decide) ?_
            subst hR
            refine W.widen (k := 1) (n := 6) (by decide) (by decide) ?_; exact xr_i hx hb hr hlocks d_LC_ready_60
        · rw [if_neg c47] at hR
          refine lv_iconst (v := 2) hx hb d_LC_ready_50 (by decide) ?_
          subst hR
          refine W.widen (k := 1) (n := 6) (by decide) (by decide) ?_; exact xr_i hx hb hr hlocks d_LC_ready_51
      · rw [if_neg c35] at hR
        refine lv_iconst (v := 1) hx hb d_LC_ready_38 (by decide) ?_
        subst hR
        refine W.widen (k := 1) (n := 6) (by decide) (by decide) ?_; exact xr_i hx hb hr hlocks d_LC_ready_39
  · rw [hM2] at hR
    dsimp only [xbp] at hR
    subst hR
    refine xt_wid (k := 1) (n := 6) (by decide) (by decide) ?_
    exact xt_p hlocks hnt hE2 he2

abbrev rm_LC_missing : Room := { frames := 7, cells := 2, slots := 12, locals := 103 }
def S_LC_missing (σ : XS) (v : Int32) (q : Int32) : Int32 ⊕ String := (xbp (S_LC_knownVehicle σ v) fun v2 => (if 0 ≤ q then (if (S_VE_missingCell σ v2 ((σ.1 9 v2 5).toNatClampNeg) q) < 0 then .inl (-1 : Int32) else (if (S_VE_missingCell σ v2 ((σ.1 9 v2 5).toNatClampNeg) q) < (240 : Int32) then .inl ((((10000 : Int32) * ((S_VE_missingCell σ v2 ((σ.1 9 v2 5).toNatClampNeg) q) / (30 : Int32))) + ((100 : Int32) * ((S_VE_missingCell σ v2 ((σ.1 9 v2 5).toNatClampNeg) q) - (S_VE_missingCell σ v2 ((σ.1 9 v2 5).toNatClampNeg) q) / (30 : Int32) * (30 : Int32)))) + (S_VE_lackOf σ v2 (S_VE_missingCell σ v2 ((σ.1 9 v2 5).toNatClampNeg) q) (σ.1 5 ((σ.1 9 v2 5).toNatClampNeg) (S_VE_missingCell σ v2 ((σ.1 9 v2 5).toNatClampNeg) q).toNatClampNeg))) else .inl (-1 : Int32))) else .inr "java/lang/IndexOutOfBoundsException"))
set_option maxHeartbeats 4000000 in
set_option maxRecDepth 100000 in
theorem c_LC_missing {l : Launch} {s0 : State} {A0 : Array Value} {D : va_G} {dA : Nat → ClassId} (h0 : XS0 l s0 A0 D dA) (σ : XS) (v : Int32) (q : Int32) (hok : XOk σ) : XMet l y_LC_missing [cw_LC_missing] rm_LC_missing (XP D dA s0 σ [.ref (xB s0 + XA 0 0), .int v, .int q]) (XQp xv_i (S_LC_missing σ v q)) 2 12 (fun _ => False) := by
  refine XMet.ofW (cc := b_LC_missing) (maxL := 6) (ret := (some .int)) (by decide) rfl ?_
  intro p e s m args below meth c s₁ Bd hml hvA
  obtain ⟨rfl, hX, hO⟩ := hvA
  have hx := Bd.exec
  have hb := Bd.bytes
  have hr := Bd.returns
  have hown : s.vm.findClass "LoadChecks" = some m.cls := findClass_of_methodNamed Bd.named
  have hlocks := Bd.notSynchronized
  have hnt : c.exceptionTable.isEmpty = true := Bd.noHandlers (atoms_spec (ws := [cw_LC_missing]) Bd.pre _ List.mem_cons_self)
  have hW0 := hO.1
  have hts := xs_w (args := ([.ref (xB s0 + XA 0 0), .int v, .int q] : List Value).toArray) h0 hW0
  have hK := xs_K h0 hW0
  have hl := lv_entry ([.ref (xB s0 + XA 0 0), .int v, .int q]) (n := 6) (Nat.le_of_ble_eq_true rfl)
  rw [lg_entry_eq]
  generalize (lg_sl ([.ref (xB s0 + XA 0 0), .int v, .int q]) ++ List.replicate (6 - (lg_sl ([.ref (xB s0 + XA 0 0), .int v, .int q])).length) Slot.unset).toArray = ls at hl ⊢
  have hl : lv_has ls 6 [(0, .ref (xB s0 + XA 0 0)), (1, .int v), (2, .int q)] := hl
  generalize hR : S_LC_missing σ v q = res
  unfold S_LC_missing at hR
  refine lv_aload_n hx hb d_LC_missing_0 rfl (lv_at hl 0 rfl) ?_
  refine lv_iload_n hx hb d_LC_missing_1 rfl (lv_at hl 1 rfl) ?_
  obtain ⟨cB2, hcB2, hoB2, hkB2⟩ := xw_recv (r := 0) (i := 0) hK hX (by decide) rfl rfl
  refine xc_p (rest := []) (x_invV (argsL := [.int v]) hx hb hown (hts _ w_290) (hts _ w_292) (hts _ w_1) (x_code (hts _ w_293)) ⟨by decide, by decide⟩ hcB2 hoB2 hkB2 rfl rfl rfl d_LC_missing_2) (c_LC_knownVehicle h0 σ v hok) (xs_cw h0 hW0 m_293) (hts _ w_34) ⟨rfl, rfl, Nat.le_of_ble_eq_true rfl, Nat.le_of_ble_eq_true rfl⟩ (hl.1.trans hml.symm) (by rw [hb]; exact d_LC_missing_2) (Nat.le_of_ble_eq_true rfl) ⟨Nat.le_of_ble_eq_true rfl, Nat.le_of_ble_eq_true rfl⟩ hX hO (fun v2 hM2 => ?_) (fun E2 x2 H2 hM2 hE2 he2 => ?_)
  · rw [hM2] at hR
    dsimp only [xbp] at hR
    have f2 := f_known hok hM2
    refine lv_astore_n (lv' := [(3, .ref (xB s0 + XA 9 v2)), (0, .ref (xB s0 + XA 0 0)), (1, .int v), (2, .int q)]) hx hb d_LC_missing_5 rfl hl (by decide) rfl (fun ls hl => ?_)
    refine lv_iload_n hx hb d_LC_missing_6 rfl (lv_at hl 3 rfl) ?_
    refine lv_if_ge (tgt := 20) hx hb d_LC_missing_7 (by decide) (fun c7 => ?_) (fun c7 => ?_)
    · rw [if_pos c7] at hR
      refine lv_aload_n hx hb d_LC_missing_20 rfl (lv_at hl 1 rfl) ?_
      refine xw_get (C := R_LC) (T := F_LC) (N := 9) (r := 0) (i := 0) hx hb hts hi_LC hown hK hX (by decide) rfl rfl 3 (by decide) (hts _ w_136) rfl rfl d_LC_missing_21 ?_
      refine lv_aload_n hx hb d_LC_missing_24 rfl (lv_at hl 0 rfl) ?_
      refine xw_getN (C := R_VE) (T := F_VE) (N := 13) (r := 9) (i := v2) hx hb hts hi_VE hown hK hX f2 rfl rfl 5 (by decide) (xs_N h0 hW0 m_92) rfl rfl d_LC_missing_25 ?_
      refine xw_aald (r := 4) (i := 0) hx hb hK hX (by decide) 3 rfl rfl rfl (j := (σ.1 9 v2 5)) (hok.2.1 _ f2) rfl d_LC_missing_28 ?_
      refine lv_astore (lv' := [(4, .ref (xB s0 + XA 5 ((σ.1 9 v2 5).toNatClampNeg))), (3, .ref (xB s0 + XA 9 v2)), (0, .ref (xB s0 + XA 0 0)), (1, .int v), (2, .int q)]) hx hb d_LC_missing_29 hl (by decide) rfl (fun ls hl => ?_)
      refine lv_aload_n hx hb d_LC_missing_31 rfl (lv_at hl 1 rfl) ?_
      refine lv_aload hx hb d_LC_missing_32 (lv_at hl 0 rfl) ?_
      refine lv_iload_n hx hb d_LC_missing_34 rfl (lv_at hl 4 rfl) ?_
      obtain ⟨cB35, hcB35, hoB35, hkB35⟩ := xw_recv (r := 9) (i := v2) hK hX f2 rfl rfl
      refine xc_f (rest := []) (x_invVN (argsL := [.ref (xB s0 + XA 5 ((σ.1 9 v2 5).toNatClampNeg)), .int q]) hx hb hown (xs_M h0 hW0 m_487) (hts _ w_489) (hts _ w_13) (x_code (hts _ w_490)) ⟨by decide, by decide⟩ hcB35 hoB35 hkB35 rfl rfl rfl d_LC_missing_35) (c_VE_missingCell h0 σ v2 ((σ.1 9 v2 5).toNatClampNeg) q f2 (vp_lt (hok.2.1 _ f2))) (xs_cw h0 hW0 m_490) (hts _ w_36) ⟨rfl, rfl, Nat.le_of_ble_eq_true rfl, Nat.le_of_ble_eq_true rfl⟩ (hl.1.trans hml.symm) (by rw [hb]; exact d_LC_missing_35) (Nat.le_of_ble_eq_true rfl) ⟨Nat.le_of_ble_eq_true rfl, Nat.le_of_ble_eq_true rfl⟩ hX hO ?_
      refine lv_istore (lv' := [(5, .int (S_VE_missingCell σ v2 ((σ.1 9 v2 5).toNatClampNeg) q)), (4, .ref (xB s0 + XA 5 ((σ.1 9 v2 5).toNatClampNeg))), (3, .ref (xB s0 + XA 9 v2)), (0, .ref (xB s0 + XA 0 0)), (1, .int v), (2, .int q)]) hx hb d_LC_missing_38 hl (by decide) rfl (fun ls hl => ?_)
      refine lv_iload hx hb d_LC_missing_40 (lv_at hl 0 rfl) ?_
      refine lv_if_lt (tgt := 53) hx hb d_LC_missing_42 (by decide) (fun c42 => ?_) (fun c42 => ?_)
      · rw [if_pos c42] at hR
        refine lv_iconst (v := -1) hx hb d_LC_missing_53 (by decide) ?_
        subst hR
        refine W.widen (k := 2) (n := 12) (by decide) (by decide) ?_; exact xr_i hx hb hr hlocks d_LC_missing_54
      · rw [if_neg c42] at hR
        refine lv_iload hx hb d_LC_missing_45 (lv_at hl 0 rfl) ?_
        refine lv_sipush (v := 240) hx hb d_LC_missing_47 (by decide) ?_
        refine lv_icmp_lt (tgt := 55) hx hb d_LC_missing_50 (by decide) (fun c50 => ?_) (fun c50 => ?_)
        · rw [if_pos c50] at hR
          refine lv_sipush (v := 10000) hx hb d_LC_missing_55 (by decide) ?_
          refine lv_iload hx hb d_LC_missing_58 (lv_at hl 0 rfl) ?_
          refine lv_bipush (v := 30) hx hb d_LC_missing_60 (by decide) ?_
          refine lv_idiv hx hb d_LC_missing_62 (by decide) ?_
          refine lv_imul hx hb d_LC_missing_63 ?_
          refine lv_bipush (v := 100) hx hb d_LC_missing_64 (by decide) ?_
          refine lv_iload hx hb d_LC_missing_66 (lv_at hl 0 rfl) ?_
          refine lv_bipush (v := 30) hx hb d_LC_missing_68 (by decide) ?_
          refine lv_irem hx hb d_LC_missing_70 (by decide) ?_
          refine lv_imul hx hb d_LC_missing_71 ?_
          refine lv_iadd hx hb d_LC_missing_72 ?_
          refine lv_aload_n hx hb d_LC_missing_73 rfl (lv_at hl 2 rfl) ?_
          refine lv_iload hx hb d_LC_missing_74 (lv_at hl 0 rfl) ?_
          refine lv_aload hx hb d_LC_missing_76 (lv_at hl 1 rfl) ?_
          refine lv_iload hx hb d_LC_missing_78 (lv_at hl 0 rfl) ?_
          refine xw_iald (r := 5) (i := (σ.1 9 v2 5).toNatClampNeg) hx hb hK hX (vp_lt (hok.2.1 _ f2)) 0 rfl rfl (j := (S_VE_missingCell σ v2 ((σ.1 9 v2 5).toNatClampNeg) q)) (o_msc c42 c50) d_LC_missing_80 ?_
          obtain ⟨cB81, hcB81, hoB81, hkB81⟩ := xw_recv (r := 9) (i := v2) hK hX f2 rfl rfl
          refine xc_f (rest := [.int (((10000 : Int32) * ((S_VE_missingCell σ v2 ((σ.1 9 v2 5).toNatClampNeg) q) / (30 : Int32))) + ((100 : Int32) * ((S_VE_missingCell σ v2 ((σ.1 9 v2 5).toNatClampNeg) q) - (S_VE_missingCell σ v2 ((σ.1 9 v2 5).toNatClampNeg) q) / (30 : Int32) * (30 : Int32))))]) (x_invVN (argsL := [.int (S_VE_missingCell σ v2 ((σ.1 9 v2 5).toNatClampNeg) q), .int (σ.1 5 ((σ.1 9 v2 5).toNatClampNeg) (S_VE_missingCell σ v2 ((σ.1 9 v2 5).toNatClampNeg) q).toNatClampNeg)]) hx hb hown (xs_M h0 hW0 m_421) (hts _ w_423) (hts _ w_11) (x_code (hts _ w_424)) ⟨by decide, by decide⟩ hcB81 hoB81 hkB81 rfl rfl rfl d_LC_missing_81) (c_VE_lackOf h0 σ v2 (S_VE_missingCell σ v2 ((σ.1 9 v2 5).toNatClampNeg) q) (σ.1 5 ((σ.1 9 v2 5).toNatClampNeg) (S_VE_missingCell σ v2 ((σ.1 9 v2 5).toNatClampNeg) q).toNatClampNeg) f2 (o_msc c42 c50)) (xs_cw h0 hW0 m_424) (hts _ w_36) ⟨rfl, rfl, Nat.le_of_ble_eq_true rfl, Nat.le_of_ble_eq_true rfl⟩ (hl.1.trans hml.symm) (by rw [hb]; exact d_LC_missing_81) (Nat.le_of_ble_eq_true rfl) ⟨Nat.le_of_ble_eq_true rfl, Nat.le_of_ble_eq_true rfl⟩ hX hO ?_
          refine lv_iadd hx hb d_LC_missing_84 ?_
          subst hR
          refine W.widen (k := 2) (n := 12) (by decide) (by decide) ?_; exact xr_i hx hb hr hlocks d_LC_missing_85
        · rw [if_neg c50] at hR
          refine lv_iconst (v := -1) hx hb d_LC_missing_53 (by decide) ?_
          subst hR
          refine W.widen (k := 2) (n := 12) (by decide) (by decide) ?_; exact xr_i hx hb hr hlocks d_LC_missing_54
    · rw [if_neg c7] at hR
      obtain ⟨qs, hqs⟩ := xs_str h0 hW0 (own := "LoadChecks") (k := 188) (tx := "below the first") (by decide +kernel); subst hR; refine W.widen (k := 1) (n := 6) (by decide) (by decide) ?_; exact x_throw hx hb h0.1 hown hlocks hnt (hl.1.trans hml.symm) (hts _ w_247) (hts _ w_43) hqs (x_own hO rfl (oa_IOB h0)) (by decide +kernel) (by decide +kernel) d_LC_missing_10 d_LC_missing_13 d_LC_missing_14 d_LC_missing_16 d_LC_missing_19 (Nat.le_of_ble_eq_true rfl) (Nat.le_of_ble_eq_true rfl) (Nat.le_of_ble_eq_true rfl) (Nat.le_of_ble_eq_true rfl) (fun x t h1 h2 => Or.inr ⟨_, x, rfl, rfl, h1, h2⟩)
  · rw [hM2] at hR
    dsimp only [xbp] at hR
    subst hR
    refine xt_wid (k := 2) (n := 12) (by decide) (by decide) ?_
    exact xt_p hlocks hnt hE2 he2

abbrev rm_LC_share : Room := { frames := 7, cells := 2, slots := 12, locals := 103 }
def L_LC_share : Nat → XS → Nat → Nat → Int32 → Int32 → Int32 → Int32 ⊕ String
  | 0, _, _, _, _, _, _ => .inr ""
  | n + 1, σ, i, kk, x4, x5, x6 => (if (240 : Int32) ≤ x6 then (if x4 = 0 then .inr "java/lang/ArithmeticException" else .inl (((1000 : Int32) * x5) / x4)) else (L_LC_share n σ i kk (x4 + (σ.1 5 kk x6.toNatClampNeg)) (x5 + (if (σ.1 5 kk x6.toNatClampNeg) < (σ.1 12 i x6.toNatClampNeg) then (σ.1 5 kk x6.toNatClampNeg) else (σ.1 12 i x6.toNatClampNeg))) (x6 + 1)))
def S_LC_share (σ : XS) (v : Int32) : Int32 ⊕ String := (xbp (S_LC_knownVehicle σ v) fun v2 => (L_LC_share 241 σ v2 ((σ.1 9 v2 5).toNatClampNeg) (0 : Int32) (0 : Int32) (0 : Int32)))
set_option maxHeartbeats 4000000 in
set_option maxRecDepth 100000 in
theorem l_LC_share {l : Launch} {s0 : State} {A0 : Array Value} {D : va_G} {dA : Nat → ClassId} (h0 : XS0 l s0 A0 D dA) {p : Program} {e : Env} {s : State} {m : MethodId} {args : Array Value} {below : List Frame} {meth : Method} {c : Code} (hx : p.tables.exec = Jvm.exec) (hb : c.code = b_LC_share) (hr : meth.sig.returnType = (some .int)) (hml : c.maxLocals = 7) (hown : s.vm.findClass "LoadChecks" = some m.cls) (hlocks : meth.locks = false) (hnt : c.exceptionTable.isEmpty = true) (hO : XO s0 s s.heap) :
    ∀ (n : Nat) (σ : XS) (i : Nat) (kk : Nat) (x4 : Int32) (x5 : Int32) (x6 : Int32) (k : Nat), x6 = nI k → k + n = 241 → k < 241 → i < 16 → kk < 6 → XWs D dA s0 σ s.heap → ∀ (ls : Array Slot), lv_has ls 7 [(2, .ref (xB s0 + XA 9 i)), (3, .ref (xB s0 + XA 5 kk)), (4, .int x4), (5, .int x5), (6, .int x6)] → ∀ res, L_LC_share n σ i kk x4 x5 x6 = res →
    W p l e rm_LC_share s m args below meth c s.heap [] 1 6 (XMQ below (XQp xv_i res) args s 2 12 (fun _ => False)) (F0 m 25 ls []) := by
  have hW0 := hO.1
  have hts := xs_w (args := args) h0 hW0
  have hK := xs_K h0 hW0
  intro n
  induction n with
  | zero =>
    intro σ i kk x4 x5 x6 k e1 h2 h3
    exact absurd h2 (by omega)
  | succ n ih =>
    intro σ i kk x4 x5 x6 k e_x6 hkn hkF hi_i hi_kk hX ls hl res hR
    rw [L_LC_share] at hR
    refine lv_iload hx hb d_LC_share_25 (lv_at hl 4 rfl) ?_
    refine lv_sipush (v := 240) hx hb d_LC_share_27 (by decide) ?_
    refine lv_icmp_ge (tgt := 67) hx hb d_LC_share_30 (by decide) (fun c30 => ?_) (fun c30 => ?_)
    · rw [if_pos c30] at hR
      refine lv_iload hx hb d_LC_share_67 (lv_at hl 2 rfl) ?_
      refine lv_if_ne (tgt := 82) hx hb d_LC_share_69 (by decide) (fun c69 => ?_) (fun c69 => ?_)
      · rw [if_neg c69] at hR
        refine lv_sipush (v := 1000) hx hb d_LC_share_82 (by decide) ?_
        refine lv_iload hx hb d_LC_share_85 (lv_at hl 3 rfl) ?_
        refine lv_imul hx hb d_LC_share_87 ?_
        refine lv_iload hx hb d_LC_share_88 (lv_at hl 2 rfl) ?_
        refine lv_idiv hx hb d_LC_share_90 c69 ?_
        subst hR
        refine W.widen (k := 2) (n := 12) (by decide) (by decide) ?_; exact xr_i hx hb hr hlocks d_LC_share_91
      · rw [if_pos c69] at hR
        obtain ⟨qs, hqs⟩ := xs_str h0 hW0 (own := "LoadChecks") (k := 193) (tx := "nothing is needed") (by decide +kernel); subst hR; refine W.widen (k := 1) (n := 6) (by decide) (by decide) ?_; exact x_throw hx hb h0.1 hown hlocks hnt (hl.1.trans hml.symm) (hts _ w_524) (hts _ w_47) hqs (x_own hO rfl (oa_ARE h0)) (by decide +kernel) (by decide +kernel) d_LC_share_72 d_LC_share_75 d_LC_share_76 d_LC_share_78 d_LC_share_81 (Nat.le_of_ble_eq_true rfl) (Nat.le_of_ble_eq_true rfl) (Nat.le_of_ble_eq_true rfl) (Nat.le_of_ble_eq_true rfl) (fun x t h1 h2 => Or.inr ⟨_, x, rfl, rfl, h1, h2⟩)
    · rw [if_neg c30] at hR
      have hk : k < 240 := x_klt (b := 240) rfl (by decide) (by omega) e_x6 c30
      have hcx : vp_in x6 240 := o_nI e_x6 hk (by decide)
      refine lv_iload hx hb d_LC_share_33 (lv_at hl 2 rfl) ?_
      refine lv_aload_n hx hb d_LC_share_35 rfl (lv_at hl 1 rfl) ?_
      refine lv_iload hx hb d_LC_share_36 (lv_at hl 4 rfl) ?_
      refine xw_iald (r := 5) (i := kk) hx hb hK hX hi_kk 0 rfl rfl (j := x6) hcx d_LC_share_38 ?_
      refine lv_iadd hx hb d_LC_share_39 ?_
      refine lv_istore (lv' := [(4, .int (x4 + (σ.1 5 kk x6.toNatClampNeg))), (2, .ref (xB s0 + XA 9 i)), (3, .ref (xB s0 + XA 5 kk)), (5, .int x5), (6, .int x6)]) hx hb d_LC_share_40 hl (by decide) rfl (fun ls hl => ?_)
      refine lv_iload hx hb d_LC_share_42 (lv_at hl 3 rfl) ?_
      refine lv_aload_n hx hb d_LC_share_44 rfl (lv_at hl 1 rfl) ?_
      refine xw_getN (C := R_VE) (T := F_VE) (N := 13) (r := 9) (i := i) hx hb hts hi_VE hown hK hX hi_i rfl rfl 2 (by decide) (xs_N h0 hW0 m_87) rfl rfl d_LC_share_45 ?_
      refine lv_iload hx hb d_LC_share_48 (lv_at hl 4 rfl) ?_
      refine xw_iald (r := 12) (i := i) hx hb hK hX hi_i 0 rfl rfl (j := x6) hcx d_LC_share_50 ?_
      refine lv_aload_n hx hb d_LC_share_51 rfl (lv_at hl 2 rfl) ?_
      refine lv_iload hx hb d_LC_share_52 (lv_at hl 4 rfl) ?_
      refine xw_iald (r := 5) (i := kk) hx hb hK hX hi_kk 0 rfl rfl (j := x6) hcx d_LC_share_54 ?_
      refine va_mmin hx hb (hml.trans hl.1.symm) hown (hts _ w_428) (hts _ w_429) (hts _ w_46) (hts _ w_430) (Nat.le_of_ble_eq_true rfl) (Nat.le_of_ble_eq_true rfl) (Nat.le_of_ble_eq_true rfl) (Nat.le_of_ble_eq_true rfl) d_LC_share_55 ?_
      refine lv_iadd hx hb d_LC_share_58 ?_
      refine lv_istore (lv' := [(5, .int (x5 + (if (σ.1 5 kk x6.toNatClampNeg) < (σ.1 12 i x6.toNatClampNeg) then (σ.1 5 kk x6.toNatClampNeg) else (σ.1 12 i x6.toNatClampNeg)))), (4, .int (x4 + (σ.1 5 kk x6.toNatClampNeg))), (2, .ref (xB s0 + XA 9 i)), (3, .ref (xB s0 + XA 5 kk)), (6, .int x6)]) hx hb d_LC_share_59 hl (by decide) rfl (fun ls hl => ?_)
      refine lv_iinc (v := (x6 + 1)) (lv' := [(6, .int (x6 + 1)), (5, .int (x5 + (if (σ.1 5 kk x6.toNatClampNeg) < (σ.1 12 i x6.toNatClampNeg) then (σ.1 5 kk x6.toNatClampNeg) else (σ.1 12 i x6.toNatClampNeg)))), (4, .int (x4 + (σ.1 5 kk x6.toNatClampNeg))), (2, .ref (xB s0 + XA 9 i)), (3, .ref (xB s0 + XA 5 kk))]) hx hb d_LC_share_61 hl (k := 4) rfl rfl (by decide) rfl (fun ls hl => ?_)
      refine lv_goto (tgt := 25) hx hb d_LC_share_64 (by decide) ?_
      exact ih σ i kk (x4 + (σ.1 5 kk x6.toNatClampNeg)) (x5 + (if (σ.1 5 kk x6.toNatClampNeg) < (σ.1 12 i x6.toNatClampNeg) then (σ.1 5 kk x6.toNatClampNeg) else (σ.1 12 i x6.toNatClampNeg))) (x6 + 1) (k + 1) (by rw [e_x6]; exact nI_1 k) (by omega) (by omega) hi_i hi_kk  hX ls (lv_sub hl [3, 4, 2, 1, 0] rfl) res hR
set_option maxHeartbeats 4000000 in
set_option maxRecDepth 100000 in
theorem c_LC_share {l : Launch} {s0 : State} {A0 : Array Value} {D : va_G} {dA : Nat → ClassId} (h0 : XS0 l s0 A0 D dA) (σ : XS) (v : Int32) (hok : XOk σ) : XMet l y_LC_share [cw_LC_share] rm_LC_share (XP D dA s0 σ [.ref (xB s0 + XA 0 0), .int v]) (XQp xv_i (S_LC_share σ v)) 2 12 (fun _ => False) := by
  refine XMet.ofW (cc := b_LC_share) (maxL := 7) (ret := (some .int)) (by decide) rfl ?_
  intro p e s m args below meth c s₁ Bd hml hvA
  obtain ⟨rfl, hX, hO⟩ := hvA
  have hx := Bd.exec
  have hb := Bd.bytes
  have hr := Bd.returns
  have hown : s.vm.findClass "LoadChecks" = some m.cls := findClass_of_methodNamed Bd.named
  have hlocks := Bd.notSynchronized
  have hnt : c.exceptionTable.isEmpty = true := Bd.noHandlers (atoms_spec (ws := [cw_LC_share]) Bd.pre _ List.mem_cons_self)
  have hW0 := hO.1
  have hts := xs_w (args := ([.ref (xB s0 + XA 0 0), .int v] : List Value).toArray) h0 hW0
  have hK := xs_K h0 hW0
  have hl := lv_entry ([.ref (xB s0 + XA 0 0), .int v]) (n := 7) (Nat.le_of_ble_eq_true rfl)
  rw [lg_entry_eq]
  generalize (lg_sl ([.ref (xB s0 + XA 0 0), .int v]) ++ List.replicate (7 - (lg_sl ([.ref (xB s0 + XA 0 0), .int v])).length) Slot.unset).toArray = ls at hl ⊢
  have hl : lv_has ls 7 [(0, .ref (xB s0 + XA 0 0)), (1, .int v)] := hl
  generalize hR : S_LC_share σ v = res
  unfold S_LC_share at hR
  refine lv_aload_n hx hb d_LC_share_0 rfl (lv_at hl 0 rfl) ?_
  refine lv_iload_n hx hb d_LC_share_1 rfl (lv_at hl 1 rfl) ?_
  obtain ⟨cB2, hcB2, hoB2, hkB2⟩ := xw_recv (r := 0) (i := 0) hK hX (by decide) rfl rfl
  refine xc_p (rest := []) (x_invV (argsL := [.int v]) hx hb hown (hts _ w_290) (hts _ w_292) (hts _ w_1) (x_code (hts _ w_293)) ⟨by decide, by decide⟩ hcB2 hoB2 hkB2 rfl rfl rfl d_LC_share_2) (c_LC_knownVehicle h0 σ v hok) (xs_cw h0 hW0 m_293) (hts _ w_34) ⟨rfl, rfl, Nat.le_of_ble_eq_true rfl, Nat.le_of_ble_eq_true rfl⟩ (hl.1.trans hml.symm) (by rw [hb]; exact d_LC_share_2) (Nat.le_of_ble_eq_true rfl) ⟨Nat.le_of_ble_eq_true rfl, Nat.le_of_ble_eq_true rfl⟩ hX hO (fun v2 hM2 => ?_) (fun E2 x2 H2 hM2 hE2 he2 => ?_)
  · rw [hM2] at hR
    dsimp only [xbp] at hR
    have f2 := f_known hok hM2
    refine lv_astore_n (lv' := [(2, .ref (xB s0 + XA 9 v2)), (0, .ref (xB s0 + XA 0 0)), (1, .int v)]) hx hb d_LC_share_5 rfl hl (by decide) rfl (fun ls hl => ?_)
    refine lv_aload_n hx hb d_LC_share_6 rfl (lv_at hl 1 rfl) ?_
    refine xw_get (C := R_LC) (T := F_LC) (N := 9) (r := 0) (i := 0) hx hb hts hi_LC hown hK hX (by decide) rfl rfl 3 (by decide) (hts _ w_136) rfl rfl d_LC_share_7 ?_
    refine lv_aload_n hx hb d_LC_share_10 rfl (lv_at hl 0 rfl) ?_
    refine xw_getN (C := R_VE) (T := F_VE) (N := 13) (r := 9) (i := v2) hx hb hts hi_VE hown hK hX f2 rfl rfl 5 (by decide) (xs_N h0 hW0 m_92) rfl rfl d_LC_share_11 ?_
    refine xw_aald (r := 4) (i := 0) hx hb hK hX (by decide) 3 rfl rfl rfl (j := (σ.1 9 v2 5)) (hok.2.1 _ f2) rfl d_LC_share_14 ?_
    refine lv_astore_n (lv' := [(3, .ref (xB s0 + XA 5 ((σ.1 9 v2 5).toNatClampNeg))), (2, .ref (xB s0 + XA 9 v2)), (0, .ref (xB s0 + XA 0 0)), (1, .int v)]) hx hb d_LC_share_15 rfl hl (by decide) rfl (fun ls hl => ?_)
    refine lv_iconst (v := 0) hx hb d_LC_share_16 (by decide) ?_
    refine lv_istore (lv' := [(4, .int (0 : Int32)), (3, .ref (xB s0 + XA 5 ((σ.1 9 v2 5).toNatClampNeg))), (2, .ref (xB s0 + XA 9 v2)), (0, .ref (xB s0 + XA 0 0)), (1, .int v)]) hx hb d_LC_share_17 hl (by decide) rfl (fun ls hl => ?_)
    refine lv_iconst (v := 0) hx hb d_LC_share_19 (by decide) ?_
    refine lv_istore (lv' := [(5, .int (0 : Int32)), (4, .int (0 : Int32)), (3, .ref (xB s0 + XA 5 ((σ.1 9 v2 5).toNatClampNeg))), (2, .ref (xB s0 + XA 9 v2)), (0, .ref (xB s0 + XA 0 0)), (1, .int v)]) hx hb d_LC_share_20 hl (by decide) rfl (fun ls hl => ?_)
    refine lv_iconst (v := 0) hx hb d_LC_share_22 (by decide) ?_
    refine lv_istore (lv' := [(6, .int (0 : Int32)), (5, .int (0 : Int32)), (4, .int (0 : Int32)), (3, .ref (xB s0 + XA 5 ((σ.1 9 v2 5).toNatClampNeg))), (2, .ref (xB s0 + XA 9 v2)), (0, .ref (xB s0 + XA 0 0)), (1, .int v)]) hx hb d_LC_share_23 hl (by decide) rfl (fun ls hl => ?_)
    refine W.widen (k := 1) (n := 6) (by decide) (by decide) ?_; exact l_LC_share h0 hx hb hr hml hown hlocks hnt hO 241 σ v2 ((σ.1 9 v2 5).toNatClampNeg) (0 : Int32) (0 : Int32) (0 : Int32) 0 nI_0.symm rfl (by decide) f2 (vp_lt (hok.2.1 _ f2))  hX ls (lv_sub hl [4, 3, 2, 1, 0] rfl) res hR
  · rw [hM2] at hR
    dsimp only [xbp] at hR
    subst hR
    refine xt_wid (k := 2) (n := 12) (by decide) (by decide) ?_
    exact xt_p hlocks hnt hE2 he2

abbrev rm_LC_axle : Room := { frames := 7, cells := 2, slots := 12, locals := 103 }
def S_LC_axle (σ : XS) (v : Int32) (q : Int32) : Int64 ⊕ String := (xbp (S_LC_knownVehicle σ v) fun v2 => (if q < 0 then .inr "java/lang/IllegalArgumentException" else (if q < (4 : Int32) then (if (2 : Int32) ≤ q then (if (q - q / (2 : Int32) * (2 : Int32)) = 0 then .inl ((S_VE_rearMoment σ v2) / (S_LC_commonDivisor σ (S_VE_rearMoment σ v2) ((σ.1 9 v2 6).toInt64))) else .inl ((σ.1 9 v2 6).toInt64 / (S_LC_commonDivisor σ (S_VE_rearMoment σ v2) ((σ.1 9 v2 6).toInt64)))) else (if (q - q / (2 : Int32) * (2 : Int32)) = 0 then .inl ((S_VE_frontMoment σ v2) / (S_LC_commonDivisor σ (S_VE_frontMoment σ v2) ((σ.1 9 v2 6).toInt64))) else .inl ((σ.1 9 v2 6).toInt64 / (S_LC_commonDivisor σ (S_VE_frontMoment σ v2) ((σ.1 9 v2 6).toInt64))))) else .inr "java/lang/IllegalArgumentException")))
set_option maxHeartbeats 4000000 in
set_option maxRecDepth 100000 in
theorem c_LC_axle {l : Launch} {s0 : State} {A0 : Array Value} {D : va_G} {dA : Nat → ClassId} (h0 : XS0 l s0 A0 D dA) (σ : XS) (v : Int32) (q : Int32) (hok : XOk σ) : XMet l y_LC_axle [cw_LC_axle] rm_LC_axle (XP D dA s0 σ [.ref (xB s0 + XA 0 0), .int v, .int q]) (XQp xv_l (S_LC_axle σ v q)) 2 12 (fun _ => False) := by
  refine XMet.ofW (cc := b_LC_axle) (maxL := 10) (ret := (some .long)) (by decide) rfl ?_
  intro p e s m args below meth c s₁ Bd hml hvA
  obtain ⟨rfl, hX, hO⟩ := hvA
  have hx := Bd.exec
  have hb := Bd.bytes
  have hr := Bd.returns
  have hown : s.vm.findClass "LoadChecks" = some m.cls := findClass_of_methodNamed Bd.named
  have hlocks := Bd.notSynchronized
  have hnt : c.exceptionTable.isEmpty = true := Bd.noHandlers (atoms_spec (ws := [cw_LC_axle]) Bd.pre _ List.mem_cons_self)
  have hW0 := hO.1
  have hts := xs_w (args := ([.ref (xB s0 + XA 0 0), .int v, .int q] : List Value).toArray) h0 hW0
  have hK := xs_K h0 hW0
  have hl := lv_entry ([.ref (xB s0 + XA 0 0), .int v, .int q]) (n := 10) (Nat.le_of_ble_eq_true rfl)
  rw [lg_entry_eq]
  generalize (lg_sl ([.ref (xB s0 + XA 0 0), .int v, .int q]) ++ List.replicate (10 - (lg_sl ([.ref (xB s0 + XA 0 0), .int v, .int q])).length) Slot.unset).toArray = ls at hl ⊢
  have hl : lv_has ls 10 [(0, .ref (xB s0 + XA 0 0)), (1, .int v), (2, .int q)] := hl
  generalize hR : S_LC_axle σ v q = res
  unfold S_LC_axle at hR
  refine lv_aload_n hx hb d_LC_axle_0 rfl (lv_at hl 0 rfl) ?_
  refine lv_iload_n hx hb d_LC_axle_1 rfl (lv_at hl 1 rfl) ?_
  obtain ⟨cB2, hcB2, hoB2, hkB2⟩ := xw_recv (r := 0) (i := 0) hK hX (by decide) rfl rfl
  refine xc_p (rest := []) (x_invV (argsL := [.int v]) hx hb hown (hts _ w_290) (hts _ w_292) (hts _ w_1) (x_code (hts _ w_293)) ⟨by decide, by decide⟩ hcB2 hoB2 hkB2 rfl rfl rfl d_LC_axle_2) (c_LC_knownVehicle h0 σ v hok) (xs_cw h0 hW0 m_293) (hts _ w_34) ⟨rfl, rfl, Nat.le_of_ble_eq_true rfl, Nat.le_of_ble_eq_true rfl⟩ (hl.1.trans hml.symm) (by rw [hb]; exact d_LC_axle_2) (Nat.le_of_ble_eq_true rfl) ⟨Nat.le_of_ble_eq_true rfl, Nat.le_of_ble_eq_true rfl⟩ hX hO (fun v2 hM2 => ?_) (fun E2 x2 H2 hM2 hE2 he2 => ?_)
  · rw [hM2] at hR
    dsimp only [xbp] at hR
    have f2 := f_known hok hM2
    refine lv_astore_n (lv' := [(3, .ref (xB s0 + XA 9 v2)), (0, .ref (xB s0 + XA 0 0)), (1, .int v), (2, .int q)]) hx hb d_LC_axle_5 rfl hl (by decide) rfl (fun ls hl => ?_)
    refine lv_iload_n hx hb d_LC_axle_6 rfl (lv_at hl 3 rfl) ?_
    refine lv_if_lt (tgt := 15) hx hb d_LC_axle_7 (by decide) (fun c7 => ?_) (fun c7 => ?_)
    · rw [if_pos c7] at hR
      obtain ⟨qs, hqs⟩ := xs_str h0 hW0 (own := "LoadChecks") (k := 196) (tx := "no such number of an axle") (by decide +kernel); subst hR; refine W.widen (k := 1) (n := 6) (by decide) (by decide) ?_; exact x_throw hx hb h0.1 hown hlocks hnt (hl.1.trans hml.symm) (hts _ w_174) (hts _ w_42) hqs (x_own hO rfl (oa_IAE h0)) (by decide +kernel) (by decide +kernel) d_LC_axle_15 d_LC_axle_18 d_LC_axle_19 d_LC_axle_21 d_LC_axle_24 (Nat.le_of_ble_eq_true rfl) (Nat.le_of_ble_eq_true rfl) (Nat.le_of_ble_eq_true rfl) (Nat.le_of_ble_eq_true rfl) (fun x t h1 h2 => Or.inr ⟨_, x, rfl, rfl, h1, h2⟩)
    · rw [if_neg c7] at hR
      refine lv_iload_n hx hb d_LC_axle_10 rfl (lv_at hl 3 rfl) ?_
      refine lv_iconst (v := 4) hx hb d_LC_axle_11 (by decide) ?_
      refine lv_icmp_lt (tgt := 25) hx hb d_LC_axle_12 (by decide) (fun c12 => ?_) (fun c12 => ?_)
      · rw [if_pos c12] at hR
        refine lv_iload_n hx hb d_LC_axle_25 rfl (lv_at hl 3 rfl) ?_
        refine lv_iconst (v := 2) hx hb d_LC_axle_26 (by decide) ?_
        refine lv_icmp_ge (tgt := 37) hx hb d_LC_axle_27 (by decide) (fun c27 => ?_) (fun c27 => ?_)
        · rw [if_pos c27] at hR
          refine lv_aload_n hx hb d_LC_axle_37 rfl (lv_at hl 0 rfl) ?_
          obtain ⟨cB38, hcB38, hoB38, hkB38⟩ := xw_recv (r := 9) (i := v2) hK hX f2 rfl rfl
          refine xc_f (rest := []) (x_invVN (argsL := []) hx hb hown (xs_M h0 hW0 m_549) (hts _ w_392) (hts _ w_9) (x_code (hts _ w_393)) ⟨by decide, by decide⟩ hcB38 hoB38 hkB38 rfl rfl rfl d_LC_axle_38) (c_VE_rearMoment h0 σ v2 f2) (xs_cw h0 hW0 m_393) (hts _ w_36) ⟨rfl, rfl, Nat.le_of_ble_eq_true rfl, Nat.le_of_ble_eq_true rfl⟩ (hl.1.trans hml.symm) (by rw [hb]; exact d_LC_axle_38) (Nat.le_of_ble_eq_true rfl) ⟨Nat.le_of_ble_eq_true rfl, Nat.le_of_ble_eq_true rfl⟩ hX hO ?_
          refine lv_lstore (lv' := [(4, .long (S_VE_rearMoment σ v2)), (3, .ref (xB s0 + XA 9 v2)), (0, .ref (xB s0 + XA 0 0)), (1, .int v), (2, .int q)]) hx hb d_LC_axle_41 hl (by decide) rfl (fun ls hl => ?_)
          refine lv_aload_n hx hb d_LC_axle_43 rfl (lv_at hl 1 rfl) ?_
          refine xw_getN (C := R_VE) (T := F_VE) (N := 13) (r := 9) (i := v2) hx hb hts hi_VE hown hK hX f2 rfl rfl 6 (by decide) (xs_N h0 hW0 m_94) rfl rfl d_LC_axle_44 ?_
          refine lv_i2l hx hb d_LC_axle_47 rfl ?_
          refine lv_lstore (lv' := [(6, .long ((σ.1 9 v2 6).toInt64)), (4, .long (S_VE_rearMoment σ v2)), (3, .ref (xB s0 + XA 9 v2)), (0, .ref (xB s0 + XA 0 0)), (1, .int v), (2, .int q)]) hx hb d_LC_axle_48 hl (by decide) rfl (fun ls hl => ?_)
          refine lv_lload hx hb d_LC_axle_50 (lv_at hl 1 rfl) ?_
          refine lv_lload hx hb d_LC_axle_52 (lv_at hl 0 rfl) ?_
          refine xc_f (rest := []) (x_invS (argsL := [.long (S_VE_rearMoment σ v2), .long ((σ.1 9 v2 6).toInt64)]) hx hb hown (hts _ w_550) (hts _ w_551) (hts _ w_34) (x_code (hts _ w_552)) ⟨by decide, by decide⟩ rfl rfl rfl d_LC_axle_54) (c_LC_commonDivisor h0 σ (S_VE_rearMoment σ v2) ((σ.1 9 v2 6).toInt64)) (xs_cw h0 hW0 m_552) (hts _ w_34) ⟨rfl, rfl, Nat.le_of_ble_eq_true rfl, Nat.le_of_ble_eq_true rfl⟩ (hl.1.trans hml.symm) (by rw [hb]; exact d_LC_axle_54) (Nat.le_of_ble_eq_true rfl) ⟨Nat.le_of_ble_eq_true rfl, Nat.le_of_ble_eq_true rfl⟩ hX hO ?_
          refine lv_lstore (lv' := [(8, .long (S_LC_commonDivisor σ (S_VE_rearMoment σ v2) ((σ.1 9 v2 6).toInt64))), (6, .long ((σ.1 9 v2 6).toInt64)), (4, .long (S_VE_rearMoment σ v2)), (3, .ref (xB s0 + XA 9 v2)), (0, .ref (xB s0 + XA 0 0)), (1, .int v), (2, .int q)]) hx hb d_LC_axle_57 hl (by decide) rfl (fun ls hl => ?_)
          refine lv_iload_n hx hb d_LC_axle_59 rfl (lv_at hl 6 rfl) ?_
          refine lv_iconst (v := 2) hx hb d_LC_axle_60 (by decide) ?_
          refine lv_irem hx hb d_LC_axle_61 (by decide) ?_
          refine lv_if_ne (tgt := 70) hx hb d_LC_axle_62 (by decide) (fun c62 => ?_) (fun c62 => ?_)
          · rw [if_neg c62] at hR
            refine lv_lload hx hb d_LC_axle_70 (lv_at hl 1 rfl) ?_
            refine lv_lload hx hb d_LC_axle_72 (lv_at hl 0 rfl) ?_
            refine lv_ldiv hx hb d_LC_axle_74 o_gcd ?_
            subst hR
            refine W.widen (k := 2) (n := 12) (by decide) (by decide) ?_; exact xr_l hx hb hr hlocks d_LC_axle_75
          · rw [if_pos c62] at hR
            refine lv_lload hx hb d_LC_axle_65 (lv_at hl 2 rfl) ?_
            refine lv_goto (tgt := 72) hx hb d_LC_axle_67 (by decide) ?_
            refine lv_lload hx hb d_LC_axle_72 (lv_at hl 0 rfl) ?_
            refine lv_ldiv hx hb d_LC_axle_74 o_gcd ?_
            subst hR
            refine W.widen (k := 2) (n := 12) (by decide) (by decide) ?_; exact xr_l hx hb hr hlocks d_LC_axle_75
        · rw [if_neg c27] at hR
          refine lv_aload_n hx hb d_LC_axle_30 rfl (lv_at hl 0 rfl) ?_
          obtain ⟨cB31, hcB31, hoB31, hkB31⟩ := xw_recv (r := 9) (i := v2) hK hX f2 rfl rfl
          refine xc_f (rest := []) (x_invVN (argsL := []) hx hb hown (xs_M h0 hW0 m_548) (hts _ w_384) (hts _ w_7) (x_code (hts _ w_385)) ⟨by decide, by decide⟩ hcB31 hoB31 hkB31 rfl rfl rfl d_LC_axle_31) (c_VE_frontMoment h0 σ v2 f2) (xs_cw h0 hW0 m_385) (hts _ w_36) ⟨rfl, rfl, Nat.le_of_ble_eq_true rfl, Nat.le_of_ble_eq_true rfl⟩ (hl.1.trans hml.symm) (by rw [hb]; exact d_LC_axle_31) (Nat.le_of_ble_eq_true rfl) ⟨Nat.le_of_ble_eq_true rfl, Nat.le_of_ble_eq_true rfl⟩ hX hO ?_
          refine lv_goto (tgt := 41) hx hb d_LC_axle_34 (by decide) ?_
          refine lv_lstore (lv' := [(4, .long (S_VE_frontMoment σ v2)), (3, .ref (xB s0 + XA 9 v2)), (0, .ref (xB s0 + XA 0 0)), (1, .int v), (2, .int q)]) hx hb d_LC_axle_41 hl (by decide) rfl (fun ls hl => ?_)
          refine lv_aload_n hx hb d_LC_axle_43 rfl (lv_at hl 1 rfl) ?_
          refine xw_getN (C := R_VE) (T := F_VE) (N := 13) (r := 9) (i := v2) hx hb hts hi_VE hown hK hX f2 rfl rfl 6 (by decide) (xs_N h0 hW0 m_94) rfl rfl d_LC_axle_44 ?_
          refine lv_i2l hx hb d_LC_axle_47 rfl ?_
          refine lv_lstore (lv' := [(6, .long ((σ.1 9 v2 6).toInt64)), (4, .long (S_VE_frontMoment σ v2)), (3, .ref (xB s0 + XA 9 v2)), (0, .ref (xB s0 + XA 0 0)), (1, .int v), (2, .int q)]) hx hb d_LC_axle_48 hl (by decide) rfl (fun ls hl => ?_)
          refine lv_lload hx hb d_LC_axle_50 (lv_at hl 1 rfl) ?_
          refine lv_lload hx hb d_LC_axle_52 (lv_at hl 0 rfl) ?_
          refine xc_f (rest := []) (x_invS (argsL := [.long (S_VE_frontMoment σ v2), .long ((σ.1 9 v2 6).toInt64)]) hx hb hown (hts _ w_550) (hts _ w_551) (hts _ w_34) (x_code (hts _ w_552)) ⟨by decide, by decide⟩ rfl rfl rfl d_LC_axle_54) (c_LC_commonDivisor h0 σ (S_VE_frontMoment σ v2) ((σ.1 9 v2 6).toInt64)) (xs_cw h0 hW0 m_552) (hts _ w_34) ⟨rfl, rfl, Nat.le_of_ble_eq_true rfl, Nat.le_of_ble_eq_true rfl⟩ (hl.1.trans hml.symm) (by rw [hb]; exact d_LC_axle_54) (Nat.le_of_ble_eq_true rfl) ⟨Nat.le_of_ble_eq_true rfl, Nat.le_of_ble_eq_true rfl⟩ hX hO ?_
          refine lv_lstore (lv' := [(8, .long (S_LC_commonDivisor σ (S_VE_frontMoment σ v2) ((σ.1 9 v2 6).toInt64))), (6, .long ((σ.1 9 v2 6).toInt64)), (4, .long (S_VE_frontMoment σ v2)), (3, .ref (xB s0 + XA 9 v2)), (0, .ref (xB s0 + XA 0 0)), (1, .int v), (2, .int q)]) hx hb d_LC_axle_57 hl (by decide) rfl (fun ls hl => ?_)
          refine lv_iload_n hx hb d_LC_axle_59 rfl (lv_at hl 6 rfl) ?_
          refine lv_iconst (v := 2) hx hb d_LC_axle_60 (by decide) ?_
          refine lv_irem hx hb d_LC_axle_61 (by decide) ?_
          refine lv_if_ne (tgt := 70) hx hb d_LC_axle_62 (by decide) (fun c62 => ?_) (fun c62 => ?_)
          · rw [if_neg c62] at hR
            refine lv_lload hx hb d_LC_axle_70 (lv_at hl 1 rfl) ?_
            refine lv_lload hx hb d_LC_axle_72 (lv_at hl 0 rfl) ?_
            refine lv_ldiv hx hb d_LC_axle_74 o_gcd ?_
            subst hR
            refine W.widen (k := 2) (n := 12) (by decide) (by decide) ?_; exact xr_l hx hb hr hlocks d_LC_axle_75
          · rw [if_pos c62] at hR
            refine lv_lload hx hb d_LC_axle_65 (lv_at hl 2 rfl) ?_
            refine lv_goto (tgt := 72) hx hb d_LC_axle_67 (by decide) ?_
            refine lv_lload hx hb d_LC_axle_72 (lv_at hl 0 rfl) ?_
            refine lv_ldiv hx hb d_LC_axle_74 o_gcd ?_
            subst hR
            refine W.widen (k := 2) (n := 12) (by decide) (by decide) ?_; exact xr_l hx hb hr hlocks d_LC_axle_75
      · rw [if_neg c12] at hR
        obtain ⟨qs, hqs⟩ := xs_str h0 hW0 (own := "LoadChecks") (k := 196) (tx := "no such number of an axle") (by decide +kernel); subst hR; refine W.widen (k := 1) (n := 6) (by decide) (by decide) ?_; exact x_throw hx hb h0.1 hown hlocks hnt (hl.1.trans hml.symm) (hts _ w_174) (hts _ w_42) hqs (x_own hO rfl (oa_IAE h0)) (by decide +kernel) (by decide +kernel) d_LC_axle_15 d_LC_axle_18 d_LC_axle_19 d_LC_axle_21 d_LC_axle_24 (Nat.le_of_ble_eq_true rfl) (Nat.le_of_ble_eq_true rfl) (Nat.le_of_ble_eq_true rfl) (Nat.le_of_ble_eq_true rfl) (fun x t h1 h2 => Or.inr ⟨_, x, rfl, rfl, h1, h2⟩)
  · rw [hM2] at hR
    dsimp only [xbp] at hR
    subst hR
    refine xt_wid (k := 2) (n := 12) (by decide) (by decide) ?_
    exact xt_p hlocks hnt hE2 he2

abbrev rm_LC_row : Room := { frames := 6, cells := 1, slots := 6, locals := 82 }
def S_LC_row (σ : XS) (a : Int32) (b : Int32) : Int32 ⊕ String := (if (S_RW_keeps σ a) = 0 then .inr "java/lang/IllegalArgumentException" else (if b < 0 then .inr "java/lang/IllegalArgumentException" else (if b < (3 : Int32) then .inl (S_RW_number σ a b) else .inr "java/lang/IllegalArgumentException")))
set_option maxHeartbeats 4000000 in
set_option maxRecDepth 100000 in
theorem c_LC_row {l : Launch} {s0 : State} {A0 : Array Value} {D : va_G} {dA : Nat → ClassId} (h0 : XS0 l s0 A0 D dA) (σ : XS) (a : Int32) (b : Int32)  : XMet l y_LC_row [cw_LC_row] rm_LC_row (XP D dA s0 σ [.ref (xB s0 + XA 0 0), .int a, .int b]) (XQp xv_i (S_LC_row σ a b)) 1 6 (fun _ => False) := by
  refine XMet.ofW (cc := b_LC_row) (maxL := 3) (ret := (some .int)) (by decide) rfl ?_
  intro p e s m args below meth c s₁ Bd hml hvA
  obtain ⟨rfl, hX, hO⟩ := hvA
  have hx := Bd.exec
  have hb := Bd.bytes
  have hr := Bd.returns
  have hown : s.vm.findClass "LoadChecks" = some m.cls := findClass_of_methodNamed Bd.named
  have hlocks := Bd.notSynchronized
  have hnt : c.exceptionTable.isEmpty = true := Bd.noHandlers (atoms_spec (ws := [cw_LC_row]) Bd.pre _ List.mem_cons_self)
  have hW0 := hO.1
  have hts := xs_w (args := ([.ref (xB s0 + XA 0 0), .int a, .int b] : List Value).toArray) h0 hW0
  have hK := xs_K h0 hW0
  have hl := lv_entry ([.ref (xB s0 + XA 0 0), .int a, .int b]) (n := 3) (Nat.le_of_ble_eq_true rfl)
  rw [lg_entry_eq]
  generalize (lg_sl ([.ref (xB s0 + XA 0 0), .int a, .int b]) ++ List.replicate (3 - (lg_sl ([.ref (xB s0 + XA 0 0), .int a, .int b])).length) Slot.unset).toArray = ls at hl ⊢
  have hl : lv_has ls 3 [(0, .ref (xB s0 + XA 0 0)), (1, .int a), (2, .int b)] := hl
  generalize hR : S_LC_row σ a b = res
  unfold S_LC_row at hR
  refine lv_aload_n hx hb d_LC_row_0 rfl (lv_at hl 0 rfl) ?_
  refine xw_get (C := R_LC) (T := F_LC) (N := 9) (r := 0) (i := 0) hx hb hts hi_LC hown hK hX (by decide) rfl rfl 5 (by decide) (hts _ w_138) rfl rfl d_LC_row_1 ?_
  refine lv_iload_n hx hb d_LC_row_4 rfl (lv_at hl 1 rfl) ?_
  obtain ⟨cB5, hcB5, hoB5, hkB5⟩ := xw_recv (r := 7) (i := 0) hK hX (by decide) rfl rfl
  refine xc_f (rest := []) (x_invVN (argsL := [.int a]) hx hb hown (xs_M h0 hW0 m_566) (hts _ w_568) (hts _ w_18) (x_code (hts _ w_569)) ⟨by decide, by decide⟩ hcB5 hoB5 hkB5 rfl rfl rfl d_LC_row_5) (c_RW_keeps h0 σ a) (xs_cw h0 hW0 m_569) (hts _ w_35) ⟨rfl, rfl, Nat.le_of_ble_eq_true rfl, Nat.le_of_ble_eq_true rfl⟩ (hl.1.trans hml.symm) (by rw [hb]; exact d_LC_row_5) (Nat.le_of_ble_eq_true rfl) ⟨Nat.le_of_ble_eq_true rfl, Nat.le_of_ble_eq_true rfl⟩ hX hO ?_
  refine lv_if_eq (tgt := 20) hx hb d_LC_row_8 (by decide) (fun c8 => ?_) (fun c8 => ?_)
  · rw [if_pos c8] at hR
    obtain ⟨qs, hqs⟩ := xs_str h0 hW0 (own := "LoadChecks") (k := 212) (tx := "no such row or number of it") (by decide +kernel); subst hR; refine W.widen (k := 0) (n := 0) (by decide) (by decide) ?_; exact x_throw hx hb h0.1 hown hlocks hnt (hl.1.trans hml.symm) (hts _ w_174) (hts _ w_42) hqs (x_own hO rfl (oa_IAE h0)) (by decide +kernel) (by decide +kernel) d_LC_row_20 d_LC_row_23 d_LC_row_24 d_LC_row_26 d_LC_row_29 (Nat.le_of_ble_eq_true rfl) (Nat.le_of_ble_eq_true rfl) (Nat.le_of_ble_eq_true rfl) (Nat.le_of_ble_eq_true rfl) (fun x t h1 h2 => Or.inr ⟨_, x, rfl, rfl, h1, h2⟩)
  · rw [if_neg c8] at hR
    refine lv_iload_n hx hb d_LC_row_11 rfl (lv_at hl 2 rfl) ?_
    refine lv_if_lt (tgt := 20) hx hb d_LC_row_12 (by decide) (fun c12 => ?_) (fun c12 => ?_)
    · rw [if_pos c12] at hR
      obtain ⟨qs, hqs⟩ := xs_str h0 hW0 (own := "LoadChecks") (k := 212) (tx := "no such row or number of it") (by decide +kernel); subst hR; refine W.widen (k := 0) (n := 0) (by decide) (by decide) ?_; exact x_throw hx hb h0.1 hown hlocks hnt (hl.1.trans hml.symm) (hts _ w_174) (hts _ w_42) hqs (x_own hO rfl (oa_IAE h0)) (by decide +kernel) (by decide +kernel) d_LC_row_20 d_LC_row_23 d_LC_row_24 d_LC_row_26 d_LC_row_29 (Nat.le_of_ble_eq_true rfl) (Nat.le_of_ble_eq_true rfl) (Nat.le_of_ble_eq_true rfl) (Nat.le_of_ble_eq_true rfl) (fun x t h1 h2 => Or.inr ⟨_, x, rfl, rfl, h1, h2⟩)
    · rw [if_neg c12] at hR
      refine lv_iload_n hx hb d_LC_row_15 rfl (lv_at hl 2 rfl) ?_
      refine lv_iconst (v := 3) hx hb d_LC_row_16 (by decide) ?_
      refine lv_icmp_lt (tgt := 30) hx hb d_LC_row_17 (by decide) (fun c17 => ?_) (fun c17 => ?_)
      · rw [if_pos c17] at hR
        refine lv_aload_n hx hb d_LC_row_30 rfl (lv_at hl 0 rfl) ?_
        refine xw_get (C := R_LC) (T := F_LC) (N := 9) (r := 0) (i := 0) hx hb hts hi_LC hown hK hX (by decide) rfl rfl 5 (by decide) (hts _ w_138) rfl rfl d_LC_row_31 ?_
        refine lv_iload_n hx hb d_LC_row_34 rfl (lv_at hl 1 rfl) ?_
        refine lv_iload_n hx hb d_LC_row_35 rfl (lv_at hl 2 rfl) ?_
        obtain ⟨cB36, hcB36, hoB36, hkB36⟩ := xw_recv (r := 7) (i := 0) hK hX (by decide) rfl rfl
        refine xc_f (rest := []) (x_invVN (argsL := [.int a, .int b]) hx hb hown (xs_M h0 hW0 m_571) (hts _ w_573) (hts _ w_19) (x_code (hts _ w_574)) ⟨by decide, by decide⟩ hcB36 hoB36 hkB36 rfl rfl rfl d_LC_row_36) (c_RW_number h0 σ a b (o_num c8 c12 c17)) (xs_cw h0 hW0 m_574) (hts _ w_35) ⟨rfl, rfl, Nat.le_of_ble_eq_true rfl, Nat.le_of_ble_eq_true rfl⟩ (hl.1.trans hml.symm) (by rw [hb]; exact d_LC_row_36) (Nat.le_of_ble_eq_true rfl) ⟨Nat.le_of_ble_eq_true rfl, Nat.le_of_ble_eq_true rfl⟩ hX hO ?_
        subst hR
        refine W.widen (k := 1) (n := 6) (by decide) (by decide) ?_; exact xr_i hx hb hr hlocks d_LC_row_39
      · rw [if_neg c17] at hR
        obtain ⟨qs, hqs⟩ := xs_str h0 hW0 (own := "LoadChecks") (k := 212) (tx := "no such row or number of it") (by decide +kernel); subst hR; refine W.widen (k := 0) (n := 0) (by decide) (by decide) ?_; exact x_throw hx hb h0.1 hown hlocks hnt (hl.1.trans hml.symm) (hts _ w_174) (hts _ w_42) hqs (x_own hO rfl (oa_IAE h0)) (by decide +kernel) (by decide +kernel) d_LC_row_20 d_LC_row_23 d_LC_row_24 d_LC_row_26 d_LC_row_29 (Nat.le_of_ble_eq_true rfl) (Nat.le_of_ble_eq_true rfl) (Nat.le_of_ble_eq_true rfl) (Nat.le_of_ble_eq_true rfl) (fun x t h1 h2 => Or.inr ⟨_, x, rfl, rfl, h1, h2⟩)

abbrev rm_LC_has : Room := { frames := 7, cells := 3, slots := 18, locals := 103 }
def S_LC_has (σ : XS) (v : Int32) (cup : Int32) (it : Int32) : Int32 ⊕ String := (xbp (S_LC_knownVehicle σ v) fun v2 => (xbp (S_LC_requireCupboard σ cup) fun _ => (xbp (S_LC_requireItem σ it) fun _ => .inl (σ.1 12 v2 (S_LC_cellOf σ cup it).toNatClampNeg))))
set_option maxHeartbeats 4000000 in
set_option maxRecDepth 100000 in
theorem c_LC_has {l : Launch} {s0 : State} {A0 : Array Value} {D : va_G} {dA : Nat → ClassId} (h0 : XS0 l s0 A0 D dA) (σ : XS) (v : Int32) (cup : Int32) (it : Int32) (hok : XOk σ) : XMet l y_LC_has [cw_LC_has] rm_LC_has (XP D dA s0 σ [.ref (xB s0 + XA 0 0), .int v, .int cup, .int it]) (XQp xv_i (S_LC_has σ v cup it)) 3 18 (fun _ => False) := by
  refine XMet.ofW (cc := b_LC_has) (maxL := 5) (ret := (some .int)) (by decide) rfl ?_
  intro p e s m args below meth c s₁ Bd hml hvA
  obtain ⟨rfl, hX, hO⟩ := hvA
  have hx := Bd.exec
  have hb := Bd.bytes
  have hr := Bd.returns
  have hown : s.vm.findClass "LoadChecks" = some m.cls := findClass_of_methodNamed Bd.named
  have hlocks := Bd.notSynchronized
  have hnt : c.exceptionTable.isEmpty = true := Bd.noHandlers (atoms_spec (ws := [cw_LC_has]) Bd.pre _ List.mem_cons_self)
  have hW0 := hO.1
  have hts := xs_w (args := ([.ref (xB s0 + XA 0 0), .int v, .int cup, .int it] : List Value).toArray) h0 hW0
  have hK := xs_K h0 hW0
  have hl := lv_entry ([.ref (xB s0 + XA 0 0), .int v, .int cup, .int it]) (n := 5) (Nat.le_of_ble_eq_true rfl)
  rw [lg_entry_eq]
  generalize (lg_sl ([.ref (xB s0 + XA 0 0), .int v, .int cup, .int it]) ++ List.replicate (5 - (lg_sl ([.ref (xB s0 + XA 0 0), .int v, .int cup, .int it])).length) Slot.unset).toArray = ls at hl ⊢
  have hl : lv_has ls 5 [(0, .ref (xB s0 + XA 0 0)), (1, .int v), (2, .int cup), (3, .int it)] := hl
  generalize hR : S_LC_has σ v cup it = res
  unfold S_LC_has at hR
  refine lv_aload_n hx hb d_LC_has_0 rfl (lv_at hl 0 rfl) ?_
  refine lv_iload_n hx hb d_LC_has_1 rfl (lv_at hl 1 rfl) ?_
  obtain ⟨cB2, hcB2, hoB2, hkB2⟩ := xw_recv (r := 0) (i := 0) hK hX (by decide) rfl rfl
  refine xc_p (rest := []) (x_invV (argsL := [.int v]) hx hb hown (hts _ w_290) (hts _ w_292) (hts _ w_1) (x_code (hts _ w_293)) ⟨by decide, by decide⟩ hcB2 hoB2 hkB2 rfl rfl rfl d_LC_has_2) (c_LC_knownVehicle h0 σ v hok) (xs_cw h0 hW0 m_293) (hts _ w_34) ⟨rfl, rfl, Nat.le_of_ble_eq_true rfl, Nat.le_of_ble_eq_true rfl⟩ (hl.1.trans hml.symm) (by rw [hb]; exact d_LC_has_2) (Nat.le_of_ble_eq_true rfl) ⟨Nat.le_of_ble_eq_true rfl, Nat.le_of_ble_eq_true rfl⟩ hX hO (fun v2 hM2 => ?_) (fun E2 x2 H2 hM2 hE2 he2 => ?_)
  · rw [hM2] at hR
    dsimp only [xbp] at hR
    have f2 := f_known hok hM2
    refine lv_astore (lv' := [(4, .ref (xB s0 + XA 9 v2)), (0, .ref (xB s0 + XA 0 0)), (1, .int v), (2, .int cup), (3, .int it)]) hx hb d_LC_has_5 hl (by decide) rfl (fun ls hl => ?_)
    refine lv_iload_n hx hb d_LC_has_7 rfl (lv_at hl 3 rfl) ?_
    refine xc_p (rest := []) (x_invS (argsL := [.int cup]) hx hb hown (hts _ w_303) (hts _ w_304) (hts _ w_34) (x_code (hts _ w_305)) ⟨by decide, by decide⟩ rfl rfl rfl d_LC_has_8) (c_LC_requireCupboard h0 σ cup) (xs_cw h0 hW0 m_305) (hts _ w_34) ⟨rfl, rfl, Nat.le_of_ble_eq_true rfl, Nat.le_of_ble_eq_true rfl⟩ (hl.1.trans hml.symm) (by rw [hb]; exact d_LC_has_8) (Nat.le_of_ble_eq_true rfl) ⟨Nat.le_of_ble_eq_true rfl, Nat.le_of_ble_eq_true rfl⟩ hX hO (fun v8 hM8 => ?_) (fun E8 x8 H8 hM8 hE8 he8 => ?_)
    · rw [hM8] at hR
      dsimp only [xbp] at hR
      have f8 := f_cup hM8
      refine lv_iload_n hx hb d_LC_has_11 rfl (lv_at hl 4 rfl) ?_
      refine xc_p (rest := []) (x_invS (argsL := [.int it]) hx hb hown (hts _ w_337) (hts _ w_338) (hts _ w_34) (x_code (hts _ w_339)) ⟨by decide, by decide⟩ rfl rfl rfl d_LC_has_12) (c_LC_requireItem h0 σ it) (xs_cw h0 hW0 m_339) (hts _ w_34) ⟨rfl, rfl, Nat.le_of_ble_eq_true rfl, Nat.le_of_ble_eq_true rfl⟩ (hl.1.trans hml.symm) (by rw [hb]; exact d_LC_has_12) (Nat.le_of_ble_eq_true rfl) ⟨Nat.le_of_ble_eq_true rfl, Nat.le_of_ble_eq_true rfl⟩ hX hO (fun v12 hM12 => ?_) (fun E12 x12 H12 hM12 hE12 he12 => ?_)
      · rw [hM12] at hR
        dsimp only [xbp] at hR
        have f12 := f_item hM12
        refine lv_aload hx hb d_LC_has_15 (lv_at hl 0 rfl) ?_
        refine xw_getN (C := R_VE) (T := F_VE) (N := 13) (r := 9) (i := v2) hx hb hts hi_VE hown hK hX f2 rfl rfl 2 (by decide) (xs_N h0 hW0 m_87) rfl rfl d_LC_has_17 ?_
        refine lv_iload_n hx hb d_LC_has_20 rfl (lv_at hl 3 rfl) ?_
        refine lv_iload_n hx hb d_LC_has_21 rfl (lv_at hl 4 rfl) ?_
        refine xc_f (rest := [.ref (xB s0 + XA 12 v2)]) (x_invS (argsL := [.int cup, .int it]) hx hb hown (hts _ w_358) (hts _ w_312) (hts _ w_34) (x_code (hts _ w_313)) ⟨by decide, by decide⟩ rfl rfl rfl d_LC_has_22) (c_LC_cellOf h0 σ cup it) (xs_cw h0 hW0 m_313) (hts _ w_34) ⟨rfl, rfl, Nat.le_of_ble_eq_true rfl, Nat.le_of_ble_eq_true rfl⟩ (hl.1.trans hml.symm) (by rw [hb]; exact d_LC_has_22) (Nat.le_of_ble_eq_true rfl) ⟨Nat.le_of_ble_eq_true rfl, Nat.le_of_ble_eq_true rfl⟩ hX hO ?_
        refine xw_iald (r := 12) (i := v2) hx hb hK hX f2 0 rfl rfl (j := (S_LC_cellOf σ cup it)) (o_cell f8 f12) d_LC_has_25 ?_
        subst hR
        refine W.widen (k := 3) (n := 18) (by decide) (by decide) ?_; exact xr_i hx hb hr hlocks d_LC_has_26
      · rw [hM12] at hR
        dsimp only [xbp] at hR
        subst hR
        refine xt_wid (k := 3) (n := 18) (by decide) (by decide) ?_
        exact xt_p hlocks hnt hE12 he12
    · rw [hM8] at hR
      dsimp only [xbp] at hR
      subst hR
      refine xt_wid (k := 3) (n := 18) (by decide) (by decide) ?_
      exact xt_p hlocks hnt hE8 he8
  · rw [hM2] at hR
    dsimp only [xbp] at hR
    subst hR
    refine xt_wid (k := 3) (n := 18) (by decide) (by decide) ?_
    exact xt_p hlocks hnt hE2 he2

abbrev rm_LC_stocked : Room := { frames := 7, cells := 1, slots := 6, locals := 102 }
def S_LC_stocked (σ : XS) (it : Int32) : Int32 ⊕ String := (xbp (S_LC_requireItem σ it) fun _ => .inl (σ.1 3 0 it.toNatClampNeg))
set_option maxHeartbeats 4000000 in
set_option maxRecDepth 100000 in
theorem c_LC_stocked {l : Launch} {s0 : State} {A0 : Array Value} {D : va_G} {dA : Nat → ClassId} (h0 : XS0 l s0 A0 D dA) (σ : XS) (it : Int32)  : XMet l y_LC_stocked [cw_LC_stocked] rm_LC_stocked (XP D dA s0 σ [.ref (xB s0 + XA 0 0), .int it]) (XQp xv_i (S_LC_stocked σ it)) 1 6 (fun _ => False) := by
  refine XMet.ofW (cc := b_LC_stocked) (maxL := 2) (ret := (some .int)) (by decide) rfl ?_
  intro p e s m args below meth c s₁ Bd hml hvA
  obtain ⟨rfl, hX, hO⟩ := hvA
  have hx := Bd.exec
  have hb := Bd.bytes
  have hr := Bd.returns
  have hown : s.vm.findClass "LoadChecks" = some m.cls := findClass_of_methodNamed Bd.named
  have hlocks := Bd.notSynchronized
  have hnt : c.exceptionTable.isEmpty = true := Bd.noHandlers (atoms_spec (ws := [cw_LC_stocked]) Bd.pre _ List.mem_cons_self)
  have hW0 := hO.1
  have hts := xs_w (args := ([.ref (xB s0 + XA 0 0), .int it] : List Value).toArray) h0 hW0
  have hK := xs_K h0 hW0
  have hl := lv_entry ([.ref (xB s0 + XA 0 0), .int it]) (n := 2) (Nat.le_of_ble_eq_true rfl)
  rw [lg_entry_eq]
  generalize (lg_sl ([.ref (xB s0 + XA 0 0), .int it]) ++ List.replicate (2 - (lg_sl ([.ref (xB s0 + XA 0 0), .int it])).length) Slot.unset).toArray = ls at hl ⊢
  have hl : lv_has ls 2 [(0, .ref (xB s0 + XA 0 0)), (1, .int it)] := hl
  generalize hR : S_LC_stocked σ it = res
  unfold S_LC_stocked at hR
  refine lv_iload_n hx hb d_LC_stocked_0 rfl (lv_at hl 1 rfl) ?_
  refine xc_p (rest := []) (x_invS (argsL := [.int it]) hx hb hown (hts _ w_337) (hts _ w_338) (hts _ w_34) (x_code (hts _ w_339)) ⟨by decide, by decide⟩ rfl rfl rfl d_LC_stocked_1) (c_LC_requireItem h0 σ it) (xs_cw h0 hW0 m_339) (hts _ w_34) ⟨rfl, rfl, Nat.le_of_ble_eq_true rfl, Nat.le_of_ble_eq_true rfl⟩ (hl.1.trans hml.symm) (by rw [hb]; exact d_LC_stocked_1) (Nat.le_of_ble_eq_true rfl) ⟨Nat.le_of_ble_eq_true rfl, Nat.le_of_ble_eq_true rfl⟩ hX hO (fun v1 hM1 => ?_) (fun E1 x1 H1 hM1 hE1 he1 => ?_)
  · rw [hM1] at hR
    dsimp only [xbp] at hR
    have f1 := f_item hM1
    refine lv_aload_n hx hb d_LC_stocked_4 rfl (lv_at hl 0 rfl) ?_
    refine xw_get (C := R_LC) (T := F_LC) (N := 9) (r := 0) (i := 0) hx hb hts hi_LC hown hK hX (by decide) rfl rfl 2 (by decide) (hts _ w_135) rfl rfl d_LC_stocked_5 ?_
    refine lv_iload_n hx hb d_LC_stocked_8 rfl (lv_at hl 1 rfl) ?_
    refine xw_iald (r := 3) (i := 0) hx hb hK hX (by decide) 0 rfl rfl (j := it) f1 d_LC_stocked_9 ?_
    subst hR
    refine W.widen (k := 1) (n := 6) (by decide) (by decide) ?_; exact xr_i hx hb hr hlocks d_LC_stocked_10
  · rw [hM1] at hR
    dsimp only [xbp] at hR
    subst hR
    refine xt_wid (k := 1) (n := 6) (by decide) (by decide) ?_
    exact xt_p hlocks hnt hE1 he1
