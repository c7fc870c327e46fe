abbrev rm_LC_put : Room := { frames := 7, cells := 6, slots := 36, locals := 105 }
def S_LC_put (σ : XS) (v : Int32) (cup : Int32) (it : Int32) (n : Int32) : (Int32 × XS) ⊕ String := (xbp (S_LC_knownVehicle σ v) fun v2 => (xbp (S_LC_requireCupboard σ cup) fun _ => (xbp (S_LC_requireItem σ it) fun _ => (xbp (S_LC_requireRange σ n (1 : Int32) (99 : Int32)) fun _ => (xbp (S_LC_requireBearable σ v2 (S_LC_cellOf σ cup it) n) fun _ => (xbp (S_LC_requireRoom σ v2 (S_LC_cellOf σ cup it) n) fun _ => .inl ((((S_VE_load σ v2 (S_LC_cellOf σ cup it) n (σ.1 1 0 it.toNatClampNeg)).2).1 12 v2 (S_LC_cellOf σ cup it).toNatClampNeg), (S_VE_load σ v2 (S_LC_cellOf σ cup it) n (σ.1 1 0 it.toNatClampNeg)).2)))))))
set_option maxHeartbeats 4000000 in
set_option maxRecDepth 100000 in
theorem c_LC_put {l : Launch} {s0 : State} {A0 : Array Value} {D : va_G} {dA : Nat → ClassId} (h0 : XS0 l s0 A0 D dA) (σ : XS) (v : Int32) (cup : Int32) (it : Int32) (n : Int32) (hok : XOk σ) : XMet l y_LC_put [cw_LC_put] rm_LC_put (XP D dA s0 σ [.ref (xB s0 + XA 0 0), .int v, .int cup, .int it, .int n]) (XQs D dA s0 xv_i (S_LC_put σ v cup it n)) 6 36 (xAm s0) := by
  refine XMet.ofW (cc := b_LC_put) (maxL := 7) (ret := (some .int)) (by decide) rfl ?_
  intro p e s m args below meth c s₁ Bd hml hvA
  obtain ⟨rfl, hX, hO⟩ := hvA
  have hx := Bd.exec
  have hb := Bd.bytes
  have hr := Bd.returns
  have hown : s.vm.findClass "LoadChecks" = some m.cls := findClass_of_methodNamed Bd.named
  have hlocks := Bd.notSynchronized
  have hnt : c.exceptionTable.isEmpty = true := Bd.noHandlers (atoms_spec (ws := [cw_LC_put]) Bd.pre _ List.mem_cons_self)
  have hW0 := hO.1
  have hts := xs_w (args := ([.ref (xB s0 + XA 0 0), .int v, .int cup, .int it, .int n] : List Value).toArray) h0 hW0
  have hK := xs_K h0 hW0
  have hS := xo_S0 hO
  have hl := lv_entry ([.ref (xB s0 + XA 0 0), .int v, .int cup, .int it, .int n]) (n := 7) (Nat.le_of_ble_eq_true rfl)
  rw [lg_entry_eq]
  generalize (lg_sl ([.ref (xB s0 + XA 0 0), .int v, .int cup, .int it, .int n]) ++ List.replicate (7 - (lg_sl ([.ref (xB s0 + XA 0 0), .int v, .int cup, .int it, .int n])).length) Slot.unset).toArray = ls at hl ⊢
  have hl : lv_has ls 7 [(0, .ref (xB s0 + XA 0 0)), (1, .int v), (2, .int cup), (3, .int it), (4, .int n)] := hl
  generalize hR : S_LC_put σ v cup it n = res
  unfold S_LC_put at hR
  refine lv_aload_n hx hb d_LC_put_0 rfl (lv_at hl 0 rfl) ?_
  refine lv_iload_n hx hb d_LC_put_1 rfl (lv_at hl 1 rfl) ?_
  obtain ⟨cB2, hcB2, hoB2, hkB2⟩ := xw_recv (r := 0) (i := 0) hK hX (by decide) rfl rfl
  refine xc_p (rest := []) (x_invV (argsL := [.int v]) hx hb hown (hts _ w_290) (hts _ w_292) (hts _ w_1) (x_code (hts _ w_293)) ⟨by decide, by decide⟩ hcB2 hoB2 hkB2 rfl rfl rfl d_LC_put_2) (c_LC_knownVehicle h0 σ v hok) (xs_cw h0 hW0 m_293) (hts _ w_34) ⟨rfl, rfl, Nat.le_of_ble_eq_true rfl, Nat.le_of_ble_eq_true rfl⟩ (hl.1.trans hml.symm) (by rw [hb]; exact d_LC_put_2) (Nat.le_of_ble_eq_true rfl) ⟨Nat.le_of_ble_eq_true rfl, Nat.le_of_ble_eq_true rfl⟩ hX ⟨hW0, xo_S hS⟩ (fun v2 hM2 => ?_) (fun E2 x2 H2 hM2 hE2 he2 => ?_)
  · rw [hM2] at hR
    dsimp only [xbp] at hR
    have f2 := f_known hok hM2
    refine lv_astore (lv' := [(5, .ref (xB s0 + XA 9 v2)), (0, .ref (xB s0 + XA 0 0)), (1, .int v), (2, .int cup), (3, .int it), (4, .int n)]) hx hb d_LC_put_5 hl (by decide) rfl (fun ls hl => ?_)
    refine lv_iload_n hx hb d_LC_put_7 rfl (lv_at hl 3 rfl) ?_
    refine xc_p (rest := []) (x_invS (argsL := [.int cup]) hx hb hown (hts _ w_303) (hts _ w_304) (hts _ w_34) (x_code (hts _ w_305)) ⟨by decide, by decide⟩ rfl rfl rfl d_LC_put_8) (c_LC_requireCupboard h0 σ cup) (xs_cw h0 hW0 m_305) (hts _ w_34) ⟨rfl, rfl, Nat.le_of_ble_eq_true rfl, Nat.le_of_ble_eq_true rfl⟩ (hl.1.trans hml.symm) (by rw [hb]; exact d_LC_put_8) (Nat.le_of_ble_eq_true rfl) ⟨Nat.le_of_ble_eq_true rfl, Nat.le_of_ble_eq_true rfl⟩ hX ⟨hW0, xo_S hS⟩ (fun v8 hM8 => ?_) (fun E8 x8 H8 hM8 hE8 he8 => ?_)
    · rw [hM8] at hR
      dsimp only [xbp] at hR
      have f8 := f_cup hM8
      refine lv_iload_n hx hb d_LC_put_11 rfl (lv_at hl 4 rfl) ?_
      refine xc_p (rest := []) (x_invS (argsL := [.int it]) hx hb hown (hts _ w_337) (hts _ w_338) (hts _ w_34) (x_code (hts _ w_339)) ⟨by decide, by decide⟩ rfl rfl rfl d_LC_put_12) (c_LC_requireItem h0 σ it) (xs_cw h0 hW0 m_339) (hts _ w_34) ⟨rfl, rfl, Nat.le_of_ble_eq_true rfl, Nat.le_of_ble_eq_true rfl⟩ (hl.1.trans hml.symm) (by rw [hb]; exact d_LC_put_12) (Nat.le_of_ble_eq_true rfl) ⟨Nat.le_of_ble_eq_true rfl, Nat.le_of_ble_eq_true rfl⟩ hX ⟨hW0, xo_S hS⟩ (fun v12 hM12 => ?_) (fun E12 x12 H12 hM12 hE12 he12 => ?_)
      · rw [hM12] at hR
        dsimp only [xbp] at hR
        have f12 := f_item hM12
        refine lv_iload hx hb d_LC_put_15 (lv_at hl 5 rfl) ?_
        refine lv_iconst (v := 1) hx hb d_LC_put_17 (by decide) ?_
        refine lv_bipush (v := 99) hx hb d_LC_put_18 (by decide) ?_
        refine xc_p (rest := []) (x_invS (argsL := [.int n, .int (1 : Int32), .int (99 : Int32)]) hx hb hown (hts _ w_244) (hts _ w_245) (hts _ w_34) (x_code (hts _ w_246)) ⟨by decide, by decide⟩ rfl rfl rfl d_LC_put_20) (c_LC_requireRange h0 σ n (1 : Int32) (99 : Int32)) (xs_cw h0 hW0 m_246) (hts _ w_34) ⟨rfl, rfl, Nat.le_of_ble_eq_true rfl, Nat.le_of_ble_eq_true rfl⟩ (hl.1.trans hml.symm) (by rw [hb]; exact d_LC_put_20) (Nat.le_of_ble_eq_true rfl) ⟨Nat.le_of_ble_eq_true rfl, Nat.le_of_ble_eq_true rfl⟩ hX ⟨hW0, xo_S hS⟩ (fun v20 hM20 => ?_) (fun E20 x20 H20 hM20 hE20 he20 => ?_)
        · rw [hM20] at hR
          dsimp only [xbp] at hR
          refine lv_iload_n hx hb d_LC_put_23 rfl (lv_at hl 3 rfl) ?_
          refine lv_iload_n hx hb d_LC_put_24 rfl (lv_at hl 4 rfl) ?_
          refine xc_f (rest := []) (x_invS (argsL := [.int cup, .int it]) hx hb hown (hts _ w_358) (hts _ w_312) (hts _ w_34) (x_code (hts _ w_313)) ⟨by decide, by decide⟩ rfl rfl rfl d_LC_put_25) (c_LC_cellOf h0 σ cup it) (xs_cw h0 hW0 m_313) (hts _ w_34) ⟨rfl, rfl, Nat.le_of_ble_eq_true rfl, Nat.le_of_ble_eq_true rfl⟩ (hl.1.trans hml.symm) (by rw [hb]; exact d_LC_put_25) (Nat.le_of_ble_eq_true rfl) ⟨Nat.le_of_ble_eq_true rfl, Nat.le_of_ble_eq_true rfl⟩ hX ⟨hW0, xo_S hS⟩ ?_
          refine lv_istore (lv' := [(6, .int (S_LC_cellOf σ cup it)), (5, .ref (xB s0 + XA 9 v2)), (0, .ref (xB s0 + XA 0 0)), (1, .int v), (2, .int cup), (3, .int it), (4, .int n)]) hx hb d_LC_put_28 hl (by decide) rfl (fun ls hl => ?_)
          refine lv_aload_n hx hb d_LC_put_30 rfl (lv_at hl 2 rfl) ?_
          refine lv_aload hx hb d_LC_put_31 (lv_at hl 1 rfl) ?_
          refine lv_iload hx hb d_LC_put_33 (lv_at hl 0 rfl) ?_
          refine lv_iload hx hb d_LC_put_35 (lv_at hl 6 rfl) ?_
          obtain ⟨cB37, hcB37, hoB37, hkB37⟩ := xw_recv (r := 0) (i := 0) hK hX (by decide) rfl rfl
          refine xc_p (rest := []) (x_invV (argsL := [.ref (xB s0 + XA 9 v2), .int (S_LC_cellOf σ cup it), .int n]) hx hb hown (hts _ w_374) (hts _ w_376) (hts _ w_5) (x_code (hts _ w_377)) ⟨by decide, by decide⟩ hcB37 hoB37 hkB37 rfl rfl rfl d_LC_put_37) (c_LC_requireBearable h0 σ v2 (S_LC_cellOf σ cup it) n f2 (o_cell f8 f12)) (xs_cw h0 hW0 m_377) (hts _ w_34) ⟨rfl, rfl, Nat.le_of_ble_eq_true rfl, Nat.le_of_ble_eq_true rfl⟩ (hl.1.trans hml.symm) (by rw [hb]; exact d_LC_put_37) (Nat.le_of_ble_eq_true rfl) ⟨Nat.le_of_ble_eq_true rfl, Nat.le_of_ble_eq_true rfl⟩ hX ⟨hW0, xo_S hS⟩ (fun v37 hM37 => ?_) (fun E37 x37 H37 hM37 hE37 he37 => ?_)
          · rw [hM37] at hR
            dsimp only [xbp] at hR
            refine lv_aload hx hb d_LC_put_40 (lv_at hl 1 rfl) ?_
            refine lv_iload hx hb d_LC_put_42 (lv_at hl 0 rfl) ?_
            refine lv_iload hx hb d_LC_put_44 (lv_at hl 6 rfl) ?_
            refine xc_p (rest := []) (x_invS (argsL := [.ref (xB s0 + XA 9 v2), .int (S_LC_cellOf σ cup it), .int n]) hx hb hown (hts _ w_395) (hts _ w_396) (hts _ w_34) (x_code (hts _ w_397)) ⟨by decide, by decide⟩ rfl rfl rfl d_LC_put_46) (c_LC_requireRoom h0 σ v2 (S_LC_cellOf σ cup it) n f2 (o_cell f8 f12)) (xs_cw h0 hW0 m_397) (hts _ w_34) ⟨rfl, rfl, Nat.le_of_ble_eq_true rfl, Nat.le_of_ble_eq_true rfl⟩ (hl.1.trans hml.symm) (by rw [hb]; exact d_LC_put_46) (Nat.le_of_ble_eq_true rfl) ⟨Nat.le_of_ble_eq_true rfl, Nat.le_of_ble_eq_true rfl⟩ hX ⟨hW0, xo_S hS⟩ (fun v46 hM46 => ?_) (fun E46 x46 H46 hM46 hE46 he46 => ?_)
            · rw [hM46] at hR
              dsimp only [xbp] at hR
              refine lv_aload hx hb d_LC_put_49 (lv_at hl 1 rfl) ?_
              refine lv_iload hx hb d_LC_put_51 (lv_at hl 0 rfl) ?_
              refine lv_iload hx hb d_LC_put_53 (lv_at hl 6 rfl) ?_
              refine lv_aload_n hx hb d_LC_put_55 rfl (lv_at hl 2 rfl) ?_
              refine xw_get (C := R_LC) (T := F_LC) (N := 9) (r := 0) (i := 0) hx hb hts hi_LC hown hK hX (by decide) rfl rfl 0 (by decide) (hts _ w_133) rfl rfl d_LC_put_56 ?_
              refine lv_iload_n hx hb d_LC_put_59 rfl (lv_at hl 5 rfl) ?_
              refine xw_iald (r := 1) (i := 0) hx hb hK hX (by decide) 0 rfl rfl (j := it) f12 d_LC_put_60 ?_
              obtain ⟨cB61, hcB61, hoB61, hkB61⟩ := xw_recv (r := 9) (i := v2) hK hX f2 rfl rfl
              refine xc_s (rest := []) (x_invVN (argsL := [.int (S_LC_cellOf σ cup it), .int n, .int (σ.1 1 0 it.toNatClampNeg)]) hx hb hown (xs_M h0 hW0 m_399) (hts _ w_401) (hts _ w_10) (x_code (hts _ w_402)) ⟨by decide, by decide⟩ hcB61 hoB61 hkB61 rfl rfl rfl d_LC_put_61) (c_VE_load h0 σ v2 (S_LC_cellOf σ cup it) n (σ.1 1 0 it.toNatClampNeg) f2 (o_cell f8 f12)) (xs_cw h0 hW0 m_402) (hts _ w_36) ⟨rfl, rfl, Nat.le_of_ble_eq_true rfl, Nat.le_of_ble_eq_true rfl⟩ (hl.1.trans hml.symm) (by rw [hb]; exact d_LC_put_61) (Nat.le_of_ble_eq_true rfl) ⟨Nat.le_of_ble_eq_true rfl, Nat.le_of_ble_eq_true rfl⟩ hX hW0 hS (fun v61 σ61 H locs hM61 hX hS => ?_) (fun E x H1 locs1 hM => by cases hM)
              obtain ⟨ev61, es61⟩ := x_inl hM61
              subst es61
              refine lv_aload hx hb d_LC_put_64 (lv_at hl 1 rfl) ?_
              refine xw_getN (C := R_VE) (T := F_VE) (N := 13) (r := 9) (i := v2) hx hb hts hi_VE hown hK hX f2 rfl rfl 2 (by decide) (xs_N h0 hW0 m_87) rfl rfl d_LC_put_66 ?_
              refine lv_iload hx hb d_LC_put_69 (lv_at hl 0 rfl) ?_
              refine xw_iald (r := 12) (i := v2) hx hb hK hX f2 0 rfl rfl (j := (S_LC_cellOf σ cup it)) (o_cell f8 f12) d_LC_put_71 ?_
              subst hR
              refine W.widen (k := 6) (n := 36) (by decide) (by decide) ?_; exact xs_i hx hb hr hlocks hX hS d_LC_put_72
            · rw [hM46] at hR
              dsimp only [xbp] at hR
              subst hR
              refine xt_wid (k := 6) (n := 36) (by decide) (by decide) ?_
              exact xt_s hlocks hnt hE46 he46 (fun q h => by cases h)
          · rw [hM37] at hR
            dsimp only [xbp] at hR
            subst hR
            refine xt_wid (k := 6) (n := 36) (by decide) (by decide) ?_
            exact xt_s hlocks hnt hE37 he37 (fun q h => by cases h)
        · rw [hM20] at hR
          dsimp only [xbp] at hR
          subst hR
          refine xt_wid (k := 6) (n := 36) (by decide) (by decide) ?_
          exact xt_s hlocks hnt hE20 he20 (fun q h => by cases h)
      · rw [hM12] at hR
        dsimp only [xbp] at hR
        subst hR
        refine xt_wid (k := 6) (n := 36) (by decide) (by decide) ?_
        exact xt_s hlocks hnt hE12 he12 (fun q h => by cases h)
    · rw [hM8] at hR
      dsimp only [xbp] at hR
      subst hR
      refine xt_wid (k := 6) (n := 36) (by decide) (by decide) ?_
      exact xt_s hlocks hnt hE8 he8 (fun q h => by cases h)
  · rw [hM2] at hR
    dsimp only [xbp] at hR
    subst hR
    refine xt_wid (k := 6) (n := 36) (by decide) (by decide) ?_
    exact xt_s hlocks hnt hE2 he2 (fun q h => by cases h)

abbrev rm_LC_use : Room := { frames := 7, cells := 5, slots := 30, locals := 104 }
def S_LC_use (σ : XS) (v : Int32) (cup : Int32) (it : Int32) (n : Int32) : (Int32 × XS) ⊕ String := (xbp (S_LC_knownVehicle σ v) fun v2 => (xbp (S_LC_requireCupboard σ cup) fun _ => (xbp (S_LC_requireItem σ it) fun _ => (xbp (S_LC_requireRange σ n (1 : Int32) (99 : Int32)) fun _ => (xbp (S_LC_requireSoMany σ v2 (S_LC_cellOf σ cup it) n) fun _ => .inl ((((S_VE_load σ v2 (S_LC_cellOf σ cup it) (-n) (σ.1 1 0 it.toNatClampNeg)).2).1 12 v2 (S_LC_cellOf σ cup it).toNatClampNeg), (S_VE_load σ v2 (S_LC_cellOf σ cup it) (-n) (σ.1 1 0 it.toNatClampNeg)).2))))))
set_option maxHeartbeats 4000000 in
set_option maxRecDepth 100000 in
theorem c_LC_use {l : Launch} {s0 : State} {A0 : Array Value} {D : va_G} {dA : Nat → ClassId} (h0 : XS0 l s0 A0 D dA) (σ : XS) (v : Int32) (cup : Int32) (it : Int32) (n : Int32) (hok : XOk σ) : XMet l y_LC_use [cw_LC_use] rm_LC_use (XP D dA s0 σ [.ref (xB s0 + XA 0 0), .int v, .int cup, .int it, .int n]) (XQs D dA s0 xv_i (S_LC_use σ v cup it n)) 5 30 (xAm s0) := by
  refine XMet.ofW (cc := b_LC_use) (maxL := 7) (ret := (some .int)) (by decide) rfl ?_
  intro p e s m args below meth c s₁ Bd hml hvA
  obtain ⟨rfl, hX, hO⟩ := hvA
  have hx := Bd.exec
  have hb := Bd.bytes
  have hr := Bd.returns
  have hown : s.vm.findClass "LoadChecks" = some m.cls := findClass_of_methodNamed Bd.named
  have hlocks := Bd.notSynchronized
  have hnt : c.exceptionTable.isEmpty = true := Bd.noHandlers (atoms_spec (ws := [cw_LC_use]) Bd.pre _ List.mem_cons_self)
  have hW0 := hO.1
  have hts := xs_w (args := ([.ref (xB s0 + XA 0 0), .int v, .int cup, .int it, .int n] : List Value).toArray) h0 hW0
  have hK := xs_K h0 hW0
  have hS := xo_S0 hO
  have hl := lv_entry ([.ref (xB s0 + XA 0 0), .int v, .int cup, .int it, .int n]) (n := 7) (Nat.le_of_ble_eq_true rfl)
  rw [lg_entry_eq]
  generalize (lg_sl ([.ref (xB s0 + XA 0 0), .int v, .int cup, .int it, .int n]) ++ List.replicate (7 - (lg_sl ([.ref (xB s0 + XA 0 0), .int v, .int cup, .int it, .int n])).length) Slot.unset).toArray = ls at hl ⊢
  have hl : lv_has ls 7 [(0, .ref (xB s0 + XA 0 0)), (1, .int v), (2, .int cup), (3, .int it), (4, .int n)] := hl
  generalize hR : S_LC_use σ v cup it n = res
  unfold S_LC_use at hR
  refine lv_aload_n hx hb d_LC_use_0 rfl (lv_at hl 0 rfl) ?_
  refine lv_iload_n hx hb d_LC_use_1 rfl (lv_at hl 1 rfl) ?_
  obtain ⟨cB2, hcB2, hoB2, hkB2⟩ := xw_recv (r := 0) (i := 0) hK hX (by decide) rfl rfl
  refine xc_p (rest := []) (x_invV (argsL := [.int v]) hx hb hown (hts _ w_290) (hts _ w_292) (hts _ w_1) (x_code (hts _ w_293)) ⟨by decide, by decide⟩ hcB2 hoB2 hkB2 rfl rfl rfl d_LC_use_2) (c_LC_knownVehicle h0 σ v hok) (xs_cw h0 hW0 m_293) (hts _ w_34) ⟨rfl, rfl, Nat.le_of_ble_eq_true rfl, Nat.le_of_ble_eq_true rfl⟩ (hl.1.trans hml.symm) (by rw [hb]; exact d_LC_use_2) (Nat.le_of_ble_eq_true rfl) ⟨Nat.le_of_ble_eq_true rfl, Nat.le_of_ble_eq_true rfl⟩ hX ⟨hW0, xo_S hS⟩ (fun v2 hM2 => ?_) (fun E2 x2 H2 hM2 hE2 he2 => ?_)
  · rw [hM2] at hR
    dsimp only [xbp] at hR
    have f2 := f_known hok hM2
    refine lv_astore (lv' := [(5, .ref (xB s0 + XA 9 v2)), (0, .ref (xB s0 + XA 0 0)), (1, .int v), (2, .int cup), (3, .int it), (4, .int n)]) hx hb d_LC_use_5 hl (by decide) rfl (fun ls hl => ?_)
    refine lv_iload_n hx hb d_LC_use_7 rfl (lv_at hl 3 rfl) ?_
    refine xc_p (rest := []) (x_invS (argsL := [.int cup]) hx hb hown (hts _ w_303) (hts _ w_304) (hts _ w_34) (x_code (hts _ w_305)) ⟨by decide, by decide⟩ rfl rfl rfl d_LC_use_8) (c_LC_requireCupboard h0 σ cup) (xs_cw h0 hW0 m_305) (hts _ w_34) ⟨rfl, rfl, Nat.le_of_ble_eq_true rfl, Nat.le_of_ble_eq_true rfl⟩ (hl.1.trans hml.symm) (by rw [hb]; exact d_LC_use_8) (Nat.le_of_ble_eq_true rfl) ⟨Nat.le_of_ble_eq_true rfl, Nat.le_of_ble_eq_true rfl⟩ hX ⟨hW0, xo_S hS⟩ (fun v8 hM8 => ?_) (fun E8 x8 H8 hM8 hE8 he8 => ?_)
    · rw [hM8] at hR
      dsimp only [xbp] at hR
      have f8 := f_cup hM8
      refine lv_iload_n hx hb d_LC_use_11 rfl (lv_at hl 4 rfl) ?_
      refine xc_p (rest := []) (x_invS (argsL := [.int it]) hx hb hown (hts _ w_337) (hts _ w_338) (hts _ w_34) (x_code (hts _ w_339)) ⟨by decide, by decide⟩ rfl rfl rfl d_LC_use_12) (c_LC_requireItem h0 σ it) (xs_cw h0 hW0 m_339) (hts _ w_34) ⟨rfl, rfl, Nat.le_of_ble_eq_true rfl, Nat.le_of_ble_eq_true rfl⟩ (hl.1.trans hml.symm) (by rw [hb]; exact d_LC_use_12) (Nat.le_of_ble_eq_true rfl) ⟨Nat.le_of_ble_eq_true rfl, Nat.le_of_ble_eq_true rfl⟩ hX ⟨hW0, xo_S hS⟩ (fun v12 hM12 => ?_) (fun E12 x12 H12 hM12 hE12 he12 => ?_)
      · rw [hM12] at hR
        dsimp only [xbp] at hR
        have f12 := f_item hM12
        refine lv_iload hx hb d_LC_use_15 (lv_at hl 5 rfl) ?_
        refine lv_iconst (v := 1) hx hb d_LC_use_17 (by decide) ?_
        refine lv_bipush (v := 99) hx hb d_LC_use_18 (by decide) ?_
        refine xc_p (rest := []) (x_invS (argsL := [.int n, .int (1 : Int32), .int (99 : Int32)]) hx hb hown (hts _ w_244) (hts _ w_245) (hts _ w_34) (x_code (hts _ w_246)) ⟨by decide, by decide⟩ rfl rfl rfl d_LC_use_20) (c_LC_requireRange h0 σ n (1 : Int32) (99 : Int32)) (xs_cw h0 hW0 m_246) (hts _ w_34) ⟨rfl, rfl, Nat.le_of_ble_eq_true rfl, Nat.le_of_ble_eq_true rfl⟩ (hl.1.trans hml.symm) (by rw [hb]; exact d_LC_use_20) (Nat.le_of_ble_eq_true rfl) ⟨Nat.le_of_ble_eq_true rfl, Nat.le_of_ble_eq_true rfl⟩ hX ⟨hW0, xo_S hS⟩ (fun v20 hM20 => ?_) (fun E20 x20 H20 hM20 hE20 he20 => ?_)
        · rw [hM20] at hR
          dsimp only [xbp] at hR
          refine lv_iload_n hx hb d_LC_use_23 rfl (lv_at hl 3 rfl) ?_
          refine lv_iload_n hx hb d_LC_use_24 rfl (lv_at hl 4 rfl) ?_
          refine xc_f (rest := []) (x_invS (argsL := [.int cup, .int it]) hx hb hown (hts _ w_358) (hts _ w_312) (hts _ w_34) (x_code (hts _ w_313)) ⟨by decide, by decide⟩ rfl rfl rfl d_LC_use_25) (c_LC_cellOf h0 σ cup it) (xs_cw h0 hW0 m_313) (hts _ w_34) ⟨rfl, rfl, Nat.le_of_ble_eq_true rfl, Nat.le_of_ble_eq_true rfl⟩ (hl.1.trans hml.symm) (by rw [hb]; exact d_LC_use_25) (Nat.le_of_ble_eq_true rfl) ⟨Nat.le_of_ble_eq_true rfl, Nat.le_of_ble_eq_true rfl⟩ hX ⟨hW0, xo_S hS⟩ ?_
          refine lv_istore (lv' := [(6, .int (S_LC_cellOf σ cup it)), (5, .ref (xB s0 + XA 9 v2)), (0, .ref (xB s0 + XA 0 0)), (1, .int v), (2, .int cup), (3, .int it), (4, .int n)]) hx hb d_LC_use_28 hl (by decide) rfl (fun ls hl => ?_)
          refine lv_aload hx hb d_LC_use_30 (lv_at hl 1 rfl) ?_
          refine lv_iload hx hb d_LC_use_32 (lv_at hl 0 rfl) ?_
          refine lv_iload hx hb d_LC_use_34 (lv_at hl 6 rfl) ?_
          refine xc_p (rest := []) (x_invS (argsL := [.ref (xB s0 + XA 9 v2), .int (S_LC_cellOf σ cup it), .int n]) hx hb hown (hts _ w_410) (hts _ w_411) (hts _ w_34) (x_code (hts _ w_412)) ⟨by decide, by decide⟩ rfl rfl rfl d_LC_use_36) (c_LC_requireSoMany h0 σ v2 (S_LC_cellOf σ cup it) n f2 (o_cell f8 f12)) (xs_cw h0 hW0 m_412) (hts _ w_34) ⟨rfl, rfl, Nat.le_of_ble_eq_true rfl, Nat.le_of_ble_eq_true rfl⟩ (hl.1.trans hml.symm) (by rw [hb]; exact d_LC_use_36) (Nat.le_of_ble_eq_true rfl) ⟨Nat.le_of_ble_eq_true rfl, Nat.le_of_ble_eq_true rfl⟩ hX ⟨hW0, xo_S hS⟩ (fun v36 hM36 => ?_) (fun E36 x36 H36 hM36 hE36 he36 => ?_)
          · rw [hM36] at hR
            dsimp only [xbp] at hR
            refine lv_aload hx hb d_LC_use_39 (lv_at hl 1 rfl) ?_
            refine lv_iload hx hb d_LC_use_41 (lv_at hl 0 rfl) ?_
            refine lv_iload hx hb d_LC_use_43 (lv_at hl 6 rfl) ?_
            refine lv_ineg hx hb d_LC_use_45 ?_
            refine lv_aload_n hx hb d_LC_use_46 rfl (lv_at hl 2 rfl) ?_
            refine xw_get (C := R_LC) (T := F_LC) (N := 9) (r := 0) (i := 0) hx hb hts hi_LC hown hK hX (by decide) rfl rfl 0 (by decide) (hts _ w_133) rfl rfl d_LC_use_47 ?_
            refine lv_iload_n hx hb d_LC_use_50 rfl (lv_at hl 5 rfl) ?_
            refine xw_iald (r := 1) (i := 0) hx hb hK hX (by decide) 0 rfl rfl (j := it) f12 d_LC_use_51 ?_
            obtain ⟨cB52, hcB52, hoB52, hkB52⟩ := xw_recv (r := 9) (i := v2) hK hX f2 rfl rfl
            refine xc_s (rest := []) (x_invVN (argsL := [.int (S_LC_cellOf σ cup it), .int (-n), .int (σ.1 1 0 it.toNatClampNeg)]) hx hb hown (xs_M h0 hW0 m_399) (hts _ w_401) (hts _ w_10) (x_code (hts _ w_402)) ⟨by decide, by decide⟩ hcB52 hoB52 hkB52 rfl rfl rfl d_LC_use_52) (c_VE_load h0 σ v2 (S_LC_cellOf σ cup it) (-n) (σ.1 1 0 it.toNatClampNeg) f2 (o_cell f8 f12)) (xs_cw h0 hW0 m_402) (hts _ w_36) ⟨rfl, rfl, Nat.le_of_ble_eq_true rfl, Nat.le_of_ble_eq_true rfl⟩ (hl.1.trans hml.symm) (by rw [hb]; exact d_LC_use_52) (Nat.le_of_ble_eq_true rfl) ⟨Nat.le_of_ble_eq_true rfl, Nat.le_of_ble_eq_true rfl⟩ hX hW0 hS (fun v52 σ52 H locs hM52 hX hS => ?_) (fun E x H1 locs1 hM => by cases hM)
            obtain ⟨ev52, es52⟩ := x_inl hM52
            subst es52
            refine lv_aload hx hb d_LC_use_55 (lv_at hl 1 rfl) ?_
            refine xw_getN (C := R_VE) (T := F_VE) (N := 13) (r := 9) (i := v2) hx hb hts hi_VE hown hK hX f2 rfl rfl 2 (by decide) (xs_N h0 hW0 m_87) rfl rfl d_LC_use_57 ?_
            refine lv_iload hx hb d_LC_use_60 (lv_at hl 0 rfl) ?_
            refine xw_iald (r := 12) (i := v2) hx hb hK hX f2 0 rfl rfl (j := (S_LC_cellOf σ cup it)) (o_cell f8 f12) d_LC_use_62 ?_
            subst hR
            refine W.widen (k := 5) (n := 30) (by decide) (by decide) ?_; exact xs_i hx hb hr hlocks hX hS d_LC_use_63
          · rw [hM36] at hR
            dsimp only [xbp] at hR
            subst hR
            refine xt_wid (k := 5) (n := 30) (by decide) (by decide) ?_
            exact xt_s hlocks hnt hE36 he36 (fun q h => by cases h)
        · rw [hM20] at hR
          dsimp only [xbp] at hR
          subst hR
          refine xt_wid (k := 5) (n := 30) (by decide) (by decide) ?_
          exact xt_s hlocks hnt hE20 he20 (fun q h => by cases h)
      · rw [hM12] at hR
        dsimp only [xbp] at hR
        subst hR
        refine xt_wid (k := 5) (n := 30) (by decide) (by decide) ?_
        exact xt_s hlocks hnt hE12 he12 (fun q h => by cases h)
    · rw [hM8] at hR
      dsimp only [xbp] at hR
      subst hR
      refine xt_wid (k := 5) (n := 30) (by decide) (by decide) ?_
      exact xt_s hlocks hnt hE8 he8 (fun q h => by cases h)
  · rw [hM2] at hR
    dsimp only [xbp] at hR
    subst hR
    refine xt_wid (k := 5) (n := 30) (by decide) (by decide) ?_
    exact xt_s hlocks hnt hE2 he2 (fun q h => by cases h)

abbrev rm_LC_replace : Room := { frames := 7, cells := 1, slots := 6, locals := 103 }
def L_LC_replace : Nat → XS → Nat → Nat → Int32 → Int32 → (Int32 × XS) ⊕ String
  | 0, _, _, _, _, _ => .inr ""
  | n + 1, σ, i, kk, x4, x5 => (if (240 : Int32) ≤ x5 then .inl (x4, σ) else (if (if (σ.1 3 0 (x5 - x5 / (30 : Int32) * (30 : Int32)).toNatClampNeg) < (S_VE_lackOf σ i x5 (σ.1 5 kk x5.toNatClampNeg)) then (σ.1 3 0 (x5 - x5 / (30 : Int32) * (30 : Int32)).toNatClampNeg) else (S_VE_lackOf σ i x5 (σ.1 5 kk x5.toNatClampNeg))) ≤ 0 then (L_LC_replace n σ i kk x4 (x5 + 1)) else (if (S_VE_bears σ i x5 (if (σ.1 3 0 (x5 - x5 / (30 : Int32) * (30 : Int32)).toNatClampNeg) < (S_VE_lackOf σ i x5 (σ.1 5 kk x5.toNatClampNeg)) then (σ.1 3 0 (x5 - x5 / (30 : Int32) * (30 : Int32)).toNatClampNeg) else (S_VE_lackOf σ i x5 (σ.1 5 kk x5.toNatClampNeg))) (σ.1 1 0 (x5 - x5 / (30 : Int32) * (30 : Int32)).toNatClampNeg)) = 0 then (L_LC_replace n σ i kk x4 (x5 + 1)) else (L_LC_replace n (xuI (S_VE_load σ i x5 (if (σ.1 3 0 (x5 - x5 / (30 : Int32) * (30 : Int32)).toNatClampNeg) < (S_VE_lackOf σ i x5 (σ.1 5 kk x5.toNatClampNeg)) then (σ.1 3 0 (x5 - x5 / (30 : Int32) * (30 : Int32)).toNatClampNeg) else (S_VE_lackOf σ i x5 (σ.1 5 kk x5.toNatClampNeg))) (σ.1 1 0 (x5 - x5 / (30 : Int32) * (30 : Int32)).toNatClampNeg)).2 3 0 (x5 - x5 / (30 : Int32) * (30 : Int32)).toNatClampNeg ((((S_VE_load σ i x5 (if (σ.1 3 0 (x5 - x5 / (30 : Int32) * (30 : Int32)).toNatClampNeg) < (S_VE_lackOf σ i x5 (σ.1 5 kk x5.toNatClampNeg)) then (σ.1 3 0 (x5 - x5 / (30 : Int32) * (30 : Int32)).toNatClampNeg) else (S_VE_lackOf σ i x5 (σ.1 5 kk x5.toNatClampNeg))) (σ.1 1 0 (x5 - x5 / (30 : Int32) * (30 : Int32)).toNatClampNeg)).2).1 3 0 (x5 - x5 / (30 : Int32) * (30 : Int32)).toNatClampNeg) - (if (σ.1 3 0 (x5 - x5 / (30 : Int32) * (30 : Int32)).toNatClampNeg) < (S_VE_lackOf σ i x5 (σ.1 5 kk x5.toNatClampNeg)) then (σ.1 3 0 (x5 - x5 / (30 : Int32) * (30 : Int32)).toNatClampNeg) else (S_VE_lackOf σ i x5 (σ.1 5 kk x5.toNatClampNeg))))) i kk (x4 + (if (σ.1 3 0 (x5 - x5 / (30 : Int32) * (30 : Int32)).toNatClampNeg) < (S_VE_lackOf σ i x5 (σ.1 5 kk x5.toNatClampNeg)) then (σ.1 3 0 (x5 - x5 / (30 : Int32) * (30 : Int32)).toNatClampNeg) else (S_VE_lackOf σ i x5 (σ.1 5 kk x5.toNatClampNeg)))) (x5 + 1)))))
def S_LC_replace (σ : XS) (v : Int32) : (Int32 × XS) ⊕ String := (xbp (S_LC_knownVehicle σ v) fun v2 => (L_LC_replace 241 σ v2 ((σ.1 9 v2 5).toNatClampNeg) (0 : Int32) (0 : Int32)))
set_option maxHeartbeats 4000000 in
set_option maxRecDepth 100000 in
theorem l_LC_replace {l : Launch} {s0 : State} {A0 : Array Value} {D : va_G} {dA : Nat → ClassId} (h0 : XS0 l s0 A0 D dA) {p : Program} {e : Env} {s : State} {m : MethodId} {args : Array Value} {below : List Frame} {meth : Method} {c : Code} (hx : p.tables.exec = Jvm.exec) (hb : c.code = b_LC_replace) (hr : meth.sig.returnType = (some .int)) (hml : c.maxLocals = 8) (hown : s.vm.findClass "LoadChecks" = some m.cls) (hlocks : meth.locks = false) (hnt : c.exceptionTable.isEmpty = true) (hO : XO s0 s s.heap) :
    ∀ (n : Nat) (σ : XS) (i : Nat) (kk : Nat) (x4 : Int32) (x5 : Int32) (k : Nat), x5 = nI k → k + n = 241 → k < 241 → i < 16 → kk < 6 → ∀ {H : Heap} {locs : List Loc}, XWs D dA s0 σ H → va_S (xAm s0) s0.heap H locs → ∀ (ls : Array Slot), lv_has ls 8 [(0, .ref (xB s0 + XA 0 0)), (2, .ref (xB s0 + XA 9 i)), (3, .ref (xB s0 + XA 5 kk)), (4, .int x4), (5, .int x5)] → ∀ res, L_LC_replace n σ i kk x4 x5 = res →
    W p l e rm_LC_replace s m args below meth c H locs 1 6 (XMQ below (XQs D dA s0 xv_i res) args s 1 6 (xAm s0)) (F0 m 22 ls []) := by
  have hW0 := hO.1
  have hts := xs_w (args := args) h0 hW0
  have hK := xs_K h0 hW0
  intro n
  induction n with
  | zero =>
    intro σ i kk x4 x5 k e1 h2 h3
    exact absurd h2 (by omega)
  | succ n ih =>
    intro σ i kk x4 x5 k e_x5 hkn hkF hi_i hi_kk H locs hX hS ls hl res hR
    rw [L_LC_replace] at hR
    refine lv_iload hx hb d_LC_replace_22 (lv_at hl 4 rfl) ?_
    refine lv_sipush (v := 240) hx hb d_LC_replace_24 (by decide) ?_
    refine lv_icmp_ge (tgt := 122) hx hb d_LC_replace_27 (by decide) (fun c27 => ?_) (fun c27 => ?_)
    · rw [if_pos c27] at hR
      refine lv_iload hx hb d_LC_replace_122 (lv_at hl 3 rfl) ?_
      subst hR
      refine W.widen (k := 1) (n := 6) (by decide) (by decide) ?_; exact xs_i hx hb hr hlocks hX hS d_LC_replace_124
    · rw [if_neg c27] at hR
      have hk : k < 240 := x_klt (b := 240) rfl (by decide) (by omega) e_x5 c27
      have hcx : vp_in x5 240 := o_nI e_x5 hk (by decide)
      refine lv_iload hx hb d_LC_replace_30 (lv_at hl 4 rfl) ?_
      refine lv_bipush (v := 30) hx hb d_LC_replace_32 (by decide) ?_
      refine lv_irem hx hb d_LC_replace_34 (by decide) ?_
      refine lv_istore (lv' := [(6, .int (x5 - x5 / (30 : Int32) * (30 : Int32))), (0, .ref (xB s0 + XA 0 0)), (2, .ref (xB s0 + XA 9 i)), (3, .ref (xB s0 + XA 5 kk)), (4, .int x4), (5, .int x5)]) hx hb d_LC_replace_35 hl (by decide) rfl (fun ls hl => ?_)
      refine lv_aload_n hx hb d_LC_replace_37 rfl (lv_at hl 2 rfl) ?_
      refine lv_iload hx hb d_LC_replace_38 (lv_at hl 5 rfl) ?_
      refine lv_aload_n hx hb d_LC_replace_40 rfl (lv_at hl 3 rfl) ?_
      refine lv_iload hx hb d_LC_replace_41 (lv_at hl 5 rfl) ?_
      refine xw_iald (r := 5) (i := kk) hx hb hK hX hi_kk 0 rfl rfl (j := x5) hcx d_LC_replace_43 ?_
      obtain ⟨cB44, hcB44, hoB44, hkB44⟩ := xw_recv (r := 9) (i := i) hK hX hi_i rfl rfl
      refine xc_f (rest := []) (x_invVN (argsL := [.int x5, .int (σ.1 5 kk x5.toNatClampNeg)]) hx hb hown (xs_M h0 hW0 m_421) (hts _ w_423) (hts _ w_11) (x_code (hts _ w_424)) ⟨by decide, by decide⟩ hcB44 hoB44 hkB44 rfl rfl rfl d_LC_replace_44) (c_VE_lackOf h0 σ i x5 (σ.1 5 kk x5.toNatClampNeg) hi_i hcx) (xs_cw h0 hW0 m_424) (hts _ w_36) ⟨rfl, rfl, Nat.le_of_ble_eq_true rfl, Nat.le_of_ble_eq_true rfl⟩ (hl.1.trans hml.symm) (by rw [hb]; exact d_LC_replace_44) (Nat.le_of_ble_eq_true rfl) ⟨Nat.le_of_ble_eq_true rfl, Nat.le_of_ble_eq_true rfl⟩ hX ⟨hW0, xo_S hS⟩ ?_
      refine lv_aload_n hx hb d_LC_replace_47 rfl (lv_at hl 1 rfl) ?_
      refine xw_get (C := R_LC) (T := F_LC) (N := 9) (r := 0) (i := 0) hx hb hts hi_LC hown hK hX (by decide) rfl rfl 2 (by decide) (hts _ w_135) rfl rfl d_LC_replace_48 ?_
      refine lv_iload hx hb d_LC_replace_51 (lv_at hl 0 rfl) ?_
      refine xw_iald (r := 3) (i := 0) hx hb hK hX (by decide) 0 rfl rfl (j := (x5 - x5 / (30 : Int32) * (30 : Int32))) (o_rem hcx) d_LC_replace_53 ?_
      refine va_mmin hx hb (hml.trans hl.1.symm) hown (hts _ w_428) (hts _ w_429) (hts _ w_46) (hts _ w_430) (Nat.le_of_ble_eq_true rfl) (Nat.le_of_ble_eq_true rfl) (Nat.le_of_ble_eq_true rfl) (Nat.le_of_ble_eq_true rfl) d_LC_replace_54 ?_
      refine lv_istore (lv' := [(7, .int (if (σ.1 3 0 (x5 - x5 / (30 : Int32) * (30 : Int32)).toNatClampNeg) < (S_VE_lackOf σ i x5 (σ.1 5 kk x5.toNatClampNeg)) then (σ.1 3 0 (x5 - x5 / (30 : Int32) * (30 : Int32)).toNatClampNeg) else (S_VE_lackOf σ i x5 (σ.1 5 kk x5.toNatClampNeg)))), (6, .int (x5 - x5 / (30 : Int32) * (30 : Int32))), (0, .ref (xB s0 + XA 0 0)), (2, .ref (xB s0 + XA 9 i)), (3, .ref (xB s0 + XA 5 kk)), (4, .int x4), (5, .int x5)]) hx hb d_LC_replace_57 hl (by decide) rfl (fun ls hl => ?_)
      refine lv_iload hx hb d_LC_replace_59 (lv_at hl 0 rfl) ?_
      refine lv_if_le (tgt := 116) hx hb d_LC_replace_61 (by decide) (fun c61 => ?_) (fun c61 => ?_)
      · rw [if_pos c61] at hR
        refine lv_iinc (v := (x5 + 1)) (lv' := [(5, .int (x5 + 1)), (7, .int (if (σ.1 3 0 (x5 - x5 / (30 : Int32) * (30 : Int32)).toNatClampNeg) < (S_VE_lackOf σ i x5 (σ.1 5 kk x5.toNatClampNeg)) then (σ.1 3 0 (x5 - x5 / (30 : Int32) * (30 : Int32)).toNatClampNeg) else (S_VE_lackOf σ i x5 (σ.1 5 kk x5.toNatClampNeg)))), (6, .int (x5 - x5 / (30 : Int32) * (30 : Int32))), (0, .ref (xB s0 + XA 0 0)), (2, .ref (xB s0 + XA 9 i)), (3, .ref (xB s0 + XA 5 kk)), (4, .int x4)]) hx hb d_LC_replace_116 hl (k := 6) rfl rfl (by decide) rfl (fun ls hl => ?_)
        refine lv_goto (tgt := 22) hx hb d_LC_replace_119 (by decide) ?_
        exact ih σ i kk x4 (x5 + 1) (k + 1) (by rw [e_x5]; exact nI_1 k) (by omega) (by omega) hi_i hi_kk  hX hS ls (lv_sub hl [3, 4, 5, 6, 0] rfl) res hR
      · rw [if_neg c61] at hR
        refine lv_aload_n hx hb d_LC_replace_64 rfl (lv_at hl 3 rfl) ?_
        refine lv_iload hx hb d_LC_replace_65 (lv_at hl 6 rfl) ?_
        refine lv_iload hx hb d_LC_replace_67 (lv_at hl 0 rfl) ?_
        refine lv_aload_n hx hb d_LC_replace_69 rfl (lv_at hl 2 rfl) ?_
        refine xw_get (C := R_LC) (T := F_LC) (N := 9) (r := 0) (i := 0) hx hb hts hi_LC hown hK hX (by decide) rfl rfl 0 (by decide) (hts _ w_133) rfl rfl d_LC_replace_70 ?_
        refine lv_iload hx hb d_LC_replace_73 (lv_at hl 1 rfl) ?_
        refine xw_iald (r := 1) (i := 0) hx hb hK hX (by decide) 0 rfl rfl (j := (x5 - x5 / (30 : Int32) * (30 : Int32))) (o_rem hcx) d_LC_replace_75 ?_
        obtain ⟨cB76, hcB76, hoB76, hkB76⟩ := xw_recv (r := 9) (i := i) hK hX hi_i rfl rfl
        refine xc_f (rest := []) (x_invVN (argsL := [.int x5, .int (if (σ.1 3 0 (x5 - x5 / (30 : Int32) * (30 : Int32)).toNatClampNeg) < (S_VE_lackOf σ i x5 (σ.1 5 kk x5.toNatClampNeg)) then (σ.1 3 0 (x5 - x5 / (30 : Int32) * (30 : Int32)).toNatClampNeg) else (S_VE_lackOf σ i x5 (σ.1 5 kk x5.toNatClampNeg))), .int (σ.1 1 0 (x5 - x5 / (30 : Int32) * (30 : Int32)).toNatClampNeg)]) hx hb hown (xs_M h0 hW0 m_378) (hts _ w_380) (hts _ w_6) (x_code (hts _ w_381)) ⟨by decide, by decide⟩ hcB76 hoB76 hkB76 rfl rfl rfl d_LC_replace_76) (c_VE_bears h0 σ i x5 (if (σ.1 3 0 (x5 - x5 / (30 : Int32) * (30 : Int32)).toNatClampNeg) < (S_VE_lackOf σ i x5 (σ.1 5 kk x5.toNatClampNeg)) then (σ.1 3 0 (x5 - x5 / (30 : Int32) * (30 : Int32)).toNatClampNeg) else (S_VE_lackOf σ i x5 (σ.1 5 kk x5.toNatClampNeg))) (σ.1 1 0 (x5 - x5 / (30 : Int32) * (30 : Int32)).toNatClampNeg) hi_i hcx) (xs_cw h0 hW0 m_381) (hts _ w_36) ⟨rfl, rfl, Nat.le_of_ble_eq_true rfl, Nat.le_of_ble_eq_true rfl⟩ (hl.1.trans hml.symm) (by rw [hb]; exact d_LC_replace_76) (Nat.le_of_ble_eq_true rfl) ⟨Nat.le_of_ble_eq_true rfl, Nat.le_of_ble_eq_true rfl⟩ hX ⟨hW0, xo_S hS⟩ ?_
        refine lv_if_eq (tgt := 116) hx hb d_LC_replace_79 (by decide) (fun c79 => ?_) (fun c79 => ?_)
        · rw [if_pos c79] at hR
          refine lv_iinc (v := (x5 + 1)) (lv' := [(5, .int (x5 + 1)), (7, .int (if (σ.1 3 0 (x5 - x5 / (30 : Int32) * (30 : Int32)).toNatClampNeg) < (S_VE_lackOf σ i x5 (σ.1 5 kk x5.toNatClampNeg)) then (σ.1 3 0 (x5 - x5 / (30 : Int32) * (30 : Int32)).toNatClampNeg) else (S_VE_lackOf σ i x5 (σ.1 5 kk x5.toNatClampNeg)))), (6, .int (x5 - x5 / (30 : Int32) * (30 : Int32))), (0, .ref (xB s0 + XA 0 0)), (2, .ref (xB s0 + XA 9 i)), (3, .ref (xB s0 + XA 5 kk)), (4, .int x4)]) hx hb d_LC_replace_116 hl (k := 6) rfl rfl (by decide) rfl (fun ls hl => ?_)
          refine lv_goto (tgt := 22) hx hb d_LC_replace_119 (by decide) ?_
          exact ih σ i kk x4 (x5 + 1) (k + 1) (by rw [e_x5]; exact nI_1 k) (by omega) (by omega) hi_i hi_kk  hX hS ls (lv_sub hl [3, 4, 5, 6, 0] rfl) res hR
        · rw [if_neg c79] at hR
          refine lv_aload_n hx hb d_LC_replace_82 rfl (lv_at hl 3 rfl) ?_
          refine lv_iload hx hb d_LC_replace_83 (lv_at hl 6 rfl) ?_
          refine lv_iload hx hb d_LC_replace_85 (lv_at hl 0 rfl) ?_
          refine lv_aload_n hx hb d_LC_replace_87 rfl (lv_at hl 2 rfl) ?_
          refine xw_get (C := R_LC) (T := F_LC) (N := 9) (r := 0) (i := 0) hx hb hts hi_LC hown hK hX (by decide) rfl rfl 0 (by decide) (hts _ w_133) rfl rfl d_LC_replace_88 ?_
          refine lv_iload hx hb d_LC_replace_91 (lv_at hl 1 rfl) ?_
          refine xw_iald (r := 1) (i := 0) hx hb hK hX (by decide) 0 rfl rfl (j := (x5 - x5 / (30 : Int32) * (30 : Int32))) (o_rem hcx) d_LC_replace_93 ?_
          obtain ⟨cB94, hcB94, hoB94, hkB94⟩ := xw_recv (r := 9) (i := i) hK hX hi_i rfl rfl
          refine xc_s (rest := []) (x_invVN (argsL := [.int x5, .int (if (σ.1 3 0 (x5 - x5 / (30 : Int32) * (30 : Int32)).toNatClampNeg) < (S_VE_lackOf σ i x5 (σ.1 5 kk x5.toNatClampNeg)) then (σ.1 3 0 (x5 - x5 / (30 : Int32) * (30 : Int32)).toNatClampNeg) else (S_VE_lackOf σ i x5 (σ.1 5 kk x5.toNatClampNeg))), .int (σ.1 1 0 (x5 - x5 / (30 : Int32) * (30 : Int32)).toNatClampNeg)]) hx hb hown (xs_M h0 hW0 m_399) (hts _ w_401) (hts _ w_10) (x_code (hts _ w_402)) ⟨by decide, by decide⟩ hcB94 hoB94 hkB94 rfl rfl rfl d_LC_replace_94) (c_VE_load h0 σ i x5 (if (σ.1 3 0 (x5 - x5 / (30 : Int32) * (30 : Int32)).toNatClampNeg) < (S_VE_lackOf σ i x5 (σ.1 5 kk x5.toNatClampNeg)) then (σ.1 3 0 (x5 - x5 / (30 : Int32) * (30 : Int32)).toNatClampNeg) else (S_VE_lackOf σ i x5 (σ.1 5 kk x5.toNatClampNeg))) (σ.1 1 0 (x5 - x5 / (30 : Int32) * (30 : Int32)).toNatClampNeg) hi_i hcx) (xs_cw h0 hW0 m_402) (hts _ w_36) ⟨rfl, rfl, Nat.le_of_ble_eq_true rfl, Nat.le_of_ble_eq_true rfl⟩ (hl.1.trans hml.symm) (by rw [hb]; exact d_LC_replace_94) (Nat.le_of_ble_eq_true rfl) ⟨Nat.le_of_ble_eq_true rfl, Nat.le_of_ble_eq_true rfl⟩ hX hW0 hS (fun v94 σ94 H locs hM94 hX hS => ?_) (fun E x H1 locs1 hM => by cases hM)
          obtain ⟨ev94, es94⟩ := x_inl hM94
          subst es94
          refine lv_aload_n hx hb d_LC_replace_97 rfl (lv_at hl 2 rfl) ?_
          refine xw_get (C := R_LC) (T := F_LC) (N := 9) (r := 0) (i := 0) hx hb hts hi_LC hown hK hX (by decide) rfl rfl 2 (by decide) (hts _ w_135) rfl rfl d_LC_replace_98 ?_
          refine lv_iload hx hb d_LC_replace_101 (lv_at hl 1 rfl) ?_
          refine lv_dup2_11 hx hb d_LC_replace_103 rfl rfl ?_
          refine xw_iald (r := 3) (i := 0) hx hb hK hX (by decide) 0 rfl rfl (j := (x5 - x5 / (30 : Int32) * (30 : Int32))) (o_rem hcx) d_LC_replace_104 ?_
          refine lv_iload hx hb d_LC_replace_105 (lv_at hl 0 rfl) ?_
          refine lv_isub hx hb d_LC_replace_107 ?_
          refine xw_iast (r := 3) (i := 0) (ent' := XE dA (xB s0) (xuI (S_VE_load σ i x5 (if (σ.1 3 0 (x5 - x5 / (30 : Int32) * (30 : Int32)).toNatClampNeg) < (S_VE_lackOf σ i x5 (σ.1 5 kk x5.toNatClampNeg)) then (σ.1 3 0 (x5 - x5 / (30 : Int32) * (30 : Int32)).toNatClampNeg) else (S_VE_lackOf σ i x5 (σ.1 5 kk x5.toNatClampNeg))) (σ.1 1 0 (x5 - x5 / (30 : Int32) * (30 : Int32)).toNatClampNeg)).2 3 0 (x5 - x5 / (30 : Int32) * (30 : Int32)).toNatClampNeg ((((S_VE_load σ i x5 (if (σ.1 3 0 (x5 - x5 / (30 : Int32) * (30 : Int32)).toNatClampNeg) < (S_VE_lackOf σ i x5 (σ.1 5 kk x5.toNatClampNeg)) then (σ.1 3 0 (x5 - x5 / (30 : Int32) * (30 : Int32)).toNatClampNeg) else (S_VE_lackOf σ i x5 (σ.1 5 kk x5.toNatClampNeg))) (σ.1 1 0 (x5 - x5 / (30 : Int32) * (30 : Int32)).toNatClampNeg)).2).1 3 0 (x5 - x5 / (30 : Int32) * (30 : Int32)).toNatClampNeg) - (if (σ.1 3 0 (x5 - x5 / (30 : Int32) * (30 : Int32)).toNatClampNeg) < (S_VE_lackOf σ i x5 (σ.1 5 kk x5.toNatClampNeg)) then (σ.1 3 0 (x5 - x5 / (30 : Int32) * (30 : Int32)).toNatClampNeg) else (S_VE_lackOf σ i x5 (σ.1 5 kk x5.toNatClampNeg)))))) hx hb hK xInj hX hS (xA_in _ _ _) (by decide) 0 rfl rfl (j := (x5 - x5 / (30 : Int32) * (30 : Int32))) (o_rem hcx) ((xe_uI dA (xB s0) ((S_VE_load σ i x5 (if (σ.1 3 0 (x5 - x5 / (30 : Int32) * (30 : Int32)).toNatClampNeg) < (S_VE_lackOf σ i x5 (σ.1 5 kk x5.toNatClampNeg)) then (σ.1 3 0 (x5 - x5 / (30 : Int32) * (30 : Int32)).toNatClampNeg) else (S_VE_lackOf σ i x5 (σ.1 5 kk x5.toNatClampNeg))) (σ.1 1 0 (x5 - x5 / (30 : Int32) * (30 : Int32)).toNatClampNeg)).2) 3 0 (x5 - x5 / (30 : Int32) * (30 : Int32)).toNatClampNeg ((((S_VE_load σ i x5 (if (σ.1 3 0 (x5 - x5 / (30 : Int32) * (30 : Int32)).toNatClampNeg) < (S_VE_lackOf σ i x5 (σ.1 5 kk x5.toNatClampNeg)) then (σ.1 3 0 (x5 - x5 / (30 : Int32) * (30 : Int32)).toNatClampNeg) else (S_VE_lackOf σ i x5 (σ.1 5 kk x5.toNatClampNeg))) (σ.1 1 0 (x5 - x5 / (30 : Int32) * (30 : Int32)).toNatClampNeg)).2).1 3 0 (x5 - x5 / (30 : Int32) * (30 : Int32)).toNatClampNeg) - (if (σ.1 3 0 (x5 - x5 / (30 : Int32) * (30 : Int32)).toNatClampNeg) < (S_VE_lackOf σ i x5 (σ.1 5 kk x5.toNatClampNeg)) then (σ.1 3 0 (x5 - x5 / (30 : Int32) * (30 : Int32)).toNatClampNeg) else (S_VE_lackOf σ i x5 (σ.1 5 kk x5.toNatClampNeg))))).trans rfl) (xe_oI dA (xB s0) ((S_VE_load σ i x5 (if (σ.1 3 0 (x5 - x5 / (30 : Int32) * (30 : Int32)).toNatClampNeg) < (S_VE_lackOf σ i x5 (σ.1 5 kk x5.toNatClampNeg)) then (σ.1 3 0 (x5 - x5 / (30 : Int32) * (30 : Int32)).toNatClampNeg) else (S_VE_lackOf σ i x5 (σ.1 5 kk x5.toNatClampNeg))) (σ.1 1 0 (x5 - x5 / (30 : Int32) * (30 : Int32)).toNatClampNeg)).2) 3 0 (x5 - x5 / (30 : Int32) * (30 : Int32)).toNatClampNeg ((((S_VE_load σ i x5 (if (σ.1 3 0 (x5 - x5 / (30 : Int32) * (30 : Int32)).toNatClampNeg) < (S_VE_lackOf σ i x5 (σ.1 5 kk x5.toNatClampNeg)) then (σ.1 3 0 (x5 - x5 / (30 : Int32) * (30 : Int32)).toNatClampNeg) else (S_VE_lackOf σ i x5 (σ.1 5 kk x5.toNatClampNeg))) (σ.1 1 0 (x5 - x5 / (30 : Int32) * (30 : Int32)).toNatClampNeg)).2).1 3 0 (x5 - x5 / (30 : Int32) * (30 : Int32)).toNatClampNeg) - (if (σ.1 3 0 (x5 - x5 / (30 : Int32) * (30 : Int32)).toNatClampNeg) < (S_VE_lackOf σ i x5 (σ.1 5 kk x5.toNatClampNeg)) then (σ.1 3 0 (x5 - x5 / (30 : Int32) * (30 : Int32)).toNatClampNeg) else (S_VE_lackOf σ i x5 (σ.1 5 kk x5.toNatClampNeg))))) d_LC_replace_108 (fun H locs hX hS => ?_)
          refine lv_iload hx hb d_LC_replace_109 (lv_at hl 5 rfl) ?_
          refine lv_iload hx hb d_LC_replace_111 (lv_at hl 0 rfl) ?_
          refine lv_iadd hx hb d_LC_replace_113 ?_
          refine lv_istore (lv' := [(4, .int (x4 + (if (σ.1 3 0 (x5 - x5 / (30 : Int32) * (30 : Int32)).toNatClampNeg) < (S_VE_lackOf σ i x5 (σ.1 5 kk x5.toNatClampNeg)) then (σ.1 3 0 (x5 - x5 / (30 : Int32) * (30 : Int32)).toNatClampNeg) else (S_VE_lackOf σ i x5 (σ.1 5 kk x5.toNatClampNeg))))), (7, .int (if (σ.1 3 0 (x5 - x5 / (30 : Int32) * (30 : Int32)).toNatClampNeg) < (S_VE_lackOf σ i x5 (σ.1 5 kk x5.toNatClampNeg)) then (σ.1 3 0 (x5 - x5 / (30 : Int32) * (30 : Int32)).toNatClampNeg) else (S_VE_lackOf σ i x5 (σ.1 5 kk x5.toNatClampNeg)))), (6, .int (x5 - x5 / (30 : Int32) * (30 : Int32))), (0, .ref (xB s0 + XA 0 0)), (2, .ref (xB s0 + XA 9 i)), (3, .ref (xB s0 + XA 5 kk)), (5, .int x5)]) hx hb d_LC_replace_114 hl (by decide) rfl (fun ls hl => ?_)
          refine lv_iinc (v := (x5 + 1)) (lv' := [(5, .int (x5 + 1)), (4, .int (x4 + (if (σ.1 3 0 (x5 - x5 / (30 : Int32) * (30 : Int32)).toNatClampNeg) < (S_VE_lackOf σ i x5 (σ.1 5 kk x5.toNatClampNeg)) then (σ.1 3 0 (x5 - x5 / (30 : Int32) * (30 : Int32)).toNatClampNeg) else (S_VE_lackOf σ i x5 (σ.1 5 kk x5.toNatClampNeg))))), (7, .int (if (σ.1 3 0 (x5 - x5 / (30 : Int32) * (30 : Int32)).toNatClampNeg) < (S_VE_lackOf σ i x5 (σ.1 5 kk x5.toNatClampNeg)) then (σ.1 3 0 (x5 - x5 / (30 : Int32) * (30 : Int32)).toNatClampNeg) else (S_VE_lackOf σ i x5 (σ.1 5 kk x5.toNatClampNeg)))), (6, .int (x5 - x5 / (30 : Int32) * (30 : Int32))), (0, .ref (xB s0 + XA 0 0)), (2, .ref (xB s0 + XA 9 i)), (3, .ref (xB s0 + XA 5 kk))]) hx hb d_LC_replace_116 hl (k := 6) rfl rfl (by decide) rfl (fun ls hl => ?_)
          refine lv_goto (tgt := 22) hx hb d_LC_replace_119 (by decide) ?_
          exact ih (xuI (S_VE_load σ i x5 (if (σ.1 3 0 (x5 - x5 / (30 : Int32) * (30 : Int32)).toNatClampNeg) < (S_VE_lackOf σ i x5 (σ.1 5 kk x5.toNatClampNeg)) then (σ.1 3 0 (x5 - x5 / (30 : Int32) * (30 : Int32)).toNatClampNeg) else (S_VE_lackOf σ i x5 (σ.1 5 kk x5.toNatClampNeg))) (σ.1 1 0 (x5 - x5 / (30 : Int32) * (30 : Int32)).toNatClampNeg)).2 3 0 (x5 - x5 / (30 : Int32) * (30 : Int32)).toNatClampNeg ((((S_VE_load σ i x5 (if (σ.1 3 0 (x5 - x5 / (30 : Int32) * (30 : Int32)).toNatClampNeg) < (S_VE_lackOf σ i x5 (σ.1 5 kk x5.toNatClampNeg)) then (σ.1 3 0 (x5 - x5 / (30 : Int32) * (30 : Int32)).toNatClampNeg) else (S_VE_lackOf σ i x5 (σ.1 5 kk x5.toNatClampNeg))) (σ.1 1 0 (x5 - x5 / (30 : Int32) * (30 : Int32)).toNatClampNeg)).2).1 3 0 (x5 - x5 / (30 : Int32) * (30 : Int32)).toNatClampNeg) - (if (σ.1 3 0 (x5 - x5 / (30 : Int32) * (30 : Int32)).toNatClampNeg) < (S_VE_lackOf σ i x5 (σ.1 5 kk x5.toNatClampNeg)) then (σ.1 3 0 (x5 - x5 / (30 : Int32) * (30 : Int32)).toNatClampNeg) else (S_VE_lackOf σ i x5 (σ.1 5 kk x5.toNatClampNeg))))) i kk (x4 + (if (σ.1 3 0 (x5 - x5 / (30 : Int32) * (30 : Int32)).toNatClampNeg) < (S_VE_lackOf σ i x5 (σ.1 5 kk x5.toNatClampNeg)) then (σ.1 3 0 (x5 - x5 / (30 : Int32) * (30 : Int32)).toNatClampNeg) else (S_VE_lackOf σ i x5 (σ.1 5 kk x5.toNatClampNeg)))) (x5 + 1) (k + 1) (by rw [e_x5]; exact nI_1 k) (by omega) (by omega) hi_i hi_kk  hX hS ls (lv_sub hl [4, 5, 6, 1, 0] rfl) res hR
set_option maxHeartbeats 4000000 in
set_option maxRecDepth 100000 in
theorem c_LC_replace {l : Launch} {s0 : State} {A0 : Array Value} {D : va_G} {dA : Nat → ClassId} (h0 : XS0 l s0 A0 D dA) (σ : XS) (v : Int32) (hok : XOk σ) : XMet l y_LC_replace [cw_LC_replace] rm_LC_replace (XP D dA s0 σ [.ref (xB s0 + XA 0 0), .int v]) (XQs D dA s0 xv_i (S_LC_replace σ v)) 1 6 (xAm s0) := by
  refine XMet.ofW (cc := b_LC_replace) (maxL := 8) (ret := (some .int)) (by decide) rfl ?_
  intro p e s m args below meth c s₁ Bd hml hvA
  obtain ⟨rfl, hX, hO⟩ := hvA
  have hx := Bd.exec
  have hb := Bd.bytes
  have hr := Bd.returns
  have hown : s.vm.findClass "LoadChecks" = some m.cls := findClass_of_methodNamed Bd.named
  have hlocks := Bd.notSynchronized
  have hnt : c.exceptionTable.isEmpty = true := Bd.noHandlers (atoms_spec (ws := [cw_LC_replace]) Bd.pre _ List.mem_cons_self)
  have hW0 := hO.1
  have hts := xs_w (args := ([.ref (xB s0 + XA 0 0), .int v] : List Value).toArray) h0 hW0
  have hK := xs_K h0 hW0
  have hS := xo_S0 hO
  have hl := lv_entry ([.ref (xB s0 + XA 0 0), .int v]) (n := 8) (Nat.le_of_ble_eq_true rfl)
  rw [lg_entry_eq]
  generalize (lg_sl ([.ref (xB s0 + XA 0 0), .int v]) ++ List.replicate (8 - (lg_sl ([.ref (xB s0 + XA 0 0), .int v])).length) Slot.unset).toArray = ls at hl ⊢
  have hl : lv_has ls 8 [(0, .ref (xB s0 + XA 0 0)), (1, .int v)] := hl
  generalize hR : S_LC_replace σ v = res
  unfold S_LC_replace at hR
  refine lv_aload_n hx hb d_LC_replace_0 rfl (lv_at hl 0 rfl) ?_
  refine lv_iload_n hx hb d_LC_replace_1 rfl (lv_at hl 1 rfl) ?_
  obtain ⟨cB2, hcB2, hoB2, hkB2⟩ := xw_recv (r := 0) (i := 0) hK hX (by decide) rfl rfl
  refine xc_p (rest := []) (x_invV (argsL := [.int v]) hx hb hown (hts _ w_290) (hts _ w_292) (hts _ w_1) (x_code (hts _ w_293)) ⟨by decide, by decide⟩ hcB2 hoB2 hkB2 rfl rfl rfl d_LC_replace_2) (c_LC_knownVehicle h0 σ v hok) (xs_cw h0 hW0 m_293) (hts _ w_34) ⟨rfl, rfl, Nat.le_of_ble_eq_true rfl, Nat.le_of_ble_eq_true rfl⟩ (hl.1.trans hml.symm) (by rw [hb]; exact d_LC_replace_2) (Nat.le_of_ble_eq_true rfl) ⟨Nat.le_of_ble_eq_true rfl, Nat.le_of_ble_eq_true rfl⟩ hX ⟨hW0, xo_S hS⟩ (fun v2 hM2 => ?_) (fun E2 x2 H2 hM2 hE2 he2 => ?_)
  · rw [hM2] at hR
    dsimp only [xbp] at hR
    have f2 := f_known hok hM2
    refine lv_astore_n (lv' := [(2, .ref (xB s0 + XA 9 v2)), (0, .ref (xB s0 + XA 0 0)), (1, .int v)]) hx hb d_LC_replace_5 rfl hl (by decide) rfl (fun ls hl => ?_)
    refine lv_aload_n hx hb d_LC_replace_6 rfl (lv_at hl 1 rfl) ?_
    refine xw_get (C := R_LC) (T := F_LC) (N := 9) (r := 0) (i := 0) hx hb hts hi_LC hown hK hX (by decide) rfl rfl 3 (by decide) (hts _ w_136) rfl rfl d_LC_replace_7 ?_
    refine lv_aload_n hx hb d_LC_replace_10 rfl (lv_at hl 0 rfl) ?_
    refine xw_getN (C := R_VE) (T := F_VE) (N := 13) (r := 9) (i := v2) hx hb hts hi_VE hown hK hX f2 rfl rfl 5 (by decide) (xs_N h0 hW0 m_92) rfl rfl d_LC_replace_11 ?_
    refine xw_aald (r := 4) (i := 0) hx hb hK hX (by decide) 3 rfl rfl rfl (j := (σ.1 9 v2 5)) (hok.2.1 _ f2) rfl d_LC_replace_14 ?_
    refine lv_astore_n (lv' := [(3, .ref (xB s0 + XA 5 ((σ.1 9 v2 5).toNatClampNeg))), (2, .ref (xB s0 + XA 9 v2)), (0, .ref (xB s0 + XA 0 0)), (1, .int v)]) hx hb d_LC_replace_15 rfl hl (by decide) rfl (fun ls hl => ?_)
    refine lv_iconst (v := 0) hx hb d_LC_replace_16 (by decide) ?_
    refine lv_istore (lv' := [(4, .int (0 : Int32)), (3, .ref (xB s0 + XA 5 ((σ.1 9 v2 5).toNatClampNeg))), (2, .ref (xB s0 + XA 9 v2)), (0, .ref (xB s0 + XA 0 0)), (1, .int v)]) hx hb d_LC_replace_17 hl (by decide) rfl (fun ls hl => ?_)
    refine lv_iconst (v := 0) hx hb d_LC_replace_19 (by decide) ?_
    refine lv_istore (lv' := [(5, .int (0 : Int32)), (4, .int (0 : Int32)), (3, .ref (xB s0 + XA 5 ((σ.1 9 v2 5).toNatClampNeg))), (2, .ref (xB s0 + XA 9 v2)), (0, .ref (xB s0 + XA 0 0)), (1, .int v)]) hx hb d_LC_replace_20 hl (by decide) rfl (fun ls hl => ?_)
    refine W.widen (k := 1) (n := 6) (by decide) (by decide) ?_; exact l_LC_replace h0 hx hb hr hml hown hlocks hnt hO 241 σ v2 ((σ.1 9 v2 5).toNatClampNeg) (0 : Int32) (0 : Int32) 0 nI_0.symm rfl (by decide) f2 (vp_lt (hok.2.1 _ f2))  hX hS ls (lv_sub hl [4, 3, 2, 1, 0] rfl) res hR
  · rw [hM2] at hR
    dsimp only [xbp] at hR
    subst hR
    refine xt_wid (k := 1) (n := 6) (by decide) (by decide) ?_
    exact xt_s hlocks hnt hE2 he2 (fun q h => by cases h)

abbrev rm_LC_swap : Room := { frames := 7, cells := 9, slots := 54, locals := 105 }
def S_LC_swap (σ : XS) (v : Int32) (u : Int32) (cup : Int32) (it : Int32) (n : Int32) : (Unit × XS) ⊕ String := (xbp (S_LC_knownVehicle σ v) fun v2 => (xbp (S_LC_knownVehicle σ u) fun v9 => (if v = u then .inr "java/lang/IllegalArgumentException" else (xbp (S_LC_requireCupboard σ cup) fun _ => (xbp (S_LC_requireItem σ it) fun _ => (xbp (S_LC_requireRange σ n (1 : Int32) (99 : Int32)) fun _ => (xbp (S_LC_requireSoMany σ v2 (S_LC_cellOf σ cup it) n) fun _ => (xbp (S_LC_requireBearable σ v9 (S_LC_cellOf σ cup it) n) fun _ => (xbp (S_LC_requireRoom σ v9 (S_LC_cellOf σ cup it) n) fun _ => .inl ((), (S_RW_add ((S_RW_add ((S_VE_load ((S_VE_load σ v2 (S_LC_cellOf σ cup it) (-n) (σ.1 1 0 it.toNatClampNeg)).2) v9 (S_LC_cellOf σ cup it) n (((S_VE_load σ v2 (S_LC_cellOf σ cup it) (-n) (σ.1 1 0 it.toNatClampNeg)).2).1 1 0 it.toNatClampNeg)).2) v it (-n)).2) u it n).2))))))))))
set_option maxHeartbeats 4000000 in
set_option maxRecDepth 100000 in
theorem c_LC_swap {l : Launch} {s0 : State} {A0 : Array Value} {D : va_G} {dA : Nat → ClassId} (h0 : XS0 l s0 A0 D dA) (σ : XS) (v : Int32) (u : Int32) (cup : Int32) (it : Int32) (n : Int32) (hok : XOk σ) : XMet l y_LC_swap [cw_LC_swap] rm_LC_swap (XP D dA s0 σ [.ref (xB s0 + XA 0 0), .int v, .int u, .int cup, .int it, .int n]) (XQs D dA s0 xv_v (S_LC_swap σ v u cup it n)) 9 54 (xAm s0) := by
  refine XMet.ofW (cc := b_LC_swap) (maxL := 9) (ret := none) (by decide) rfl ?_
  intro p e s m args below meth c s₁ Bd hml hvA
  obtain ⟨rfl, hX, hO⟩ := hvA
  have hx := Bd.exec
  have hb := Bd.bytes
  have hr := Bd.returns
  have hown : s.vm.findClass "LoadChecks" = some m.cls := findClass_of_methodNamed Bd.named
  have hlocks := Bd.notSynchronized
  have hnt : c.exceptionTable.isEmpty = true := Bd.noHandlers (atoms_spec (ws := [cw_LC_swap]) Bd.pre _ List.mem_cons_self)
  have hW0 := hO.1
  have hts := xs_w (args := ([.ref (xB s0 + XA 0 0), .int v, .int u, .int cup, .int it, .int n] : List Value).toArray) h0 hW0
  have hK := xs_K h0 hW0
  have hS := xo_S0 hO
  have hl := lv_entry ([.ref (xB s0 + XA 0 0), .int v, .int u, .int cup, .int it, .int n]) (n := 9) (Nat.le_of_ble_eq_true rfl)
  rw [lg_entry_eq]
  generalize (lg_sl ([.ref (xB s0 + XA 0 0), .int v, .int u, .int cup, .int it, .int n]) ++ List.replicate (9 - (lg_sl ([.ref (xB s0 + XA 0 0), .int v, .int u, .int cup, .int it, .int n])).length) Slot.unset).toArray = ls at hl ⊢
  have hl : lv_has ls 9 [(0, .ref (xB s0 + XA 0 0)), (1, .int v), (2, .int u), (3, .int cup), (4, .int it), (5, .int n)] := hl
  generalize hR : S_LC_swap σ v u cup it n = res
  unfold S_LC_swap at hR
  refine lv_aload_n hx hb d_LC_swap_0 rfl (lv_at hl 0 rfl) ?_
  refine lv_iload_n hx hb d_LC_swap_1 rfl (lv_at hl 1 rfl) ?_
  obtain ⟨cB2, hcB2, hoB2, hkB2⟩ := xw_recv (r := 0) (i := 0) hK hX (by decide) rfl rfl
  refine xc_p (rest := []) (x_invV (argsL := [.int v]) hx hb hown (hts _ w_290) (hts _ w_292) (hts _ w_1) (x_code (hts _ w_293)) ⟨by decide, by decide⟩ hcB2 hoB2 hkB2 rfl rfl rfl d_LC_swap_2) (c_LC_knownVehicle h0 σ v hok) (xs_cw h0 hW0 m_293) (hts _ w_34) ⟨rfl, rfl, Nat.le_of_ble_eq_true rfl, Nat.le_of_ble_eq_true rfl⟩ (hl.1.trans hml.symm) (by rw [hb]; exact d_LC_swap_2) (Nat.le_of_ble_eq_true rfl) ⟨Nat.le_of_ble_eq_true rfl, Nat.le_of_ble_eq_true rfl⟩ hX ⟨hW0, xo_S hS⟩ (fun v2 hM2 => ?_) (fun E2 x2 H2 hM2 hE2 he2 => ?_)
  · rw [hM2] at hR
    dsimp only [xbp] at hR
    have f2 := f_known hok hM2
    refine lv_astore (lv' := [(6, .ref (xB s0 + XA 9 v2)), (0, .ref (xB s0 + XA 0 0)), (1, .int v), (2, .int u), (3, .int cup), (4, .int it), (5, .int n)]) hx hb d_LC_swap_5 hl (by decide) rfl (fun ls hl => ?_)
    refine lv_aload_n hx hb d_LC_swap_7 rfl (lv_at hl 1 rfl) ?_
    refine lv_iload_n hx hb d_LC_swap_8 rfl (lv_at hl 3 rfl) ?_
    obtain ⟨cB9, hcB9, hoB9, hkB9⟩ := xw_recv (r := 0) (i := 0) hK hX (by decide) rfl rfl
    refine xc_p (rest := []) (x_invV (argsL := [.int u]) hx hb hown (hts _ w_290) (hts _ w_292) (hts _ w_1) (x_code (hts _ w_293)) ⟨by decide, by decide⟩ hcB9 hoB9 hkB9 rfl rfl rfl d_LC_swap_9) (c_LC_knownVehicle h0 σ u hok) (xs_cw h0 hW0 m_293) (hts _ w_34) ⟨rfl, rfl, Nat.le_of_ble_eq_true rfl, Nat.le_of_ble_eq_true rfl⟩ (hl.1.trans hml.symm) (by rw [hb]; exact d_LC_swap_9) (Nat.le_of_ble_eq_true rfl) ⟨Nat.le_of_ble_eq_true rfl, Nat.le_of_ble_eq_true rfl⟩ hX ⟨hW0, xo_S hS⟩ (fun v9 hM9 => ?_) (fun E9 x9 H9 hM9 hE9 he9 => ?_)
    · rw [hM9] at hR
      dsimp only [xbp] at hR
      have f9 := f_known hok hM9
      refine lv_astore (lv' := [(7, .ref (xB s0 + XA 9 v9)), (6, .ref (xB s0 + XA 9 v2)), (0, .ref (xB s0 + XA 0 0)), (1, .int v), (2, .int u), (3, .int cup), (4, .int it), (5, .int n)]) hx hb d_LC_swap_12 hl (by decide) rfl (fun ls hl => ?_)
      refine lv_iload_n hx hb d_LC_swap_14 rfl (lv_at hl 3 rfl) ?_
      refine lv_iload_n hx hb d_LC_swap_15 rfl (lv_at hl 4 rfl) ?_
      refine lv_icmp_ne (tgt := 29) hx hb d_LC_swap_16 (by decide) (fun c16 => ?_) (fun c16 => ?_)
      · rw [if_neg c16] at hR
        refine lv_iload_n hx hb d_LC_swap_29 rfl (lv_at hl 5 rfl) ?_
        refine xc_p (rest := []) (x_invS (argsL := [.int cup]) hx hb hown (hts _ w_303) (hts _ w_304) (hts _ w_34) (x_code (hts _ w_305)) ⟨by decide, by decide⟩ rfl rfl rfl d_LC_swap_30) (c_LC_requireCupboard h0 σ cup) (xs_cw h0 hW0 m_305) (hts _ w_34) ⟨rfl, rfl, Nat.le_of_ble_eq_true rfl, Nat.le_of_ble_eq_true rfl⟩ (hl.1.trans hml.symm) (by rw [hb]; exact d_LC_swap_30) (Nat.le_of_ble_eq_true rfl) ⟨Nat.le_of_ble_eq_true rfl, Nat.le_of_ble_eq_true rfl⟩ hX ⟨hW0, xo_S hS⟩ (fun v30 hM30 => ?_) (fun E30 x30 H30 hM30 hE30 he30 => ?_)
        · rw [hM30] at hR
          dsimp only [xbp] at hR
          have f30 := f_cup hM30
          refine lv_iload hx hb d_LC_swap_33 (lv_at hl 6 rfl) ?_
          refine xc_p (rest := []) (x_invS (argsL := [.int it]) hx hb hown (hts _ w_337) (hts _ w_338) (hts _ w_34) (x_code (hts _ w_339)) ⟨by decide, by decide⟩ rfl rfl rfl d_LC_swap_35) (c_LC_requireItem h0 σ it) (xs_cw h0 hW0 m_339) (hts _ w_34) ⟨rfl, rfl, Nat.le_of_ble_eq_true rfl, Nat.le_of_ble_eq_true rfl⟩ (hl.1.trans hml.symm) (by rw [hb]; exact d_LC_swap_35) (Nat.le_of_ble_eq_true rfl) ⟨Nat.le_of_ble_eq_true rfl, Nat.le_of_ble_eq_true rfl⟩ hX ⟨hW0, xo_S hS⟩ (fun v35 hM35 => ?_) (fun E35 x35 H35 hM35 hE35 he35 => ?_)
          · rw [hM35] at hR
            dsimp only [xbp] at hR
            have f35 := f_item hM35
            refine lv_iload hx hb d_LC_swap_38 (lv_at hl 7 rfl) ?_
            refine lv_iconst (v := 1) hx hb d_LC_swap_40 (by decide) ?_
            refine lv_bipush (v := 99) hx hb d_LC_swap_41 (by decide) ?_
            refine xc_p (rest := []) (x_invS (argsL := [.int n, .int (1 : Int32), .int (99 : Int32)]) hx hb hown (hts _ w_244) (hts _ w_245) (hts _ w_34) (x_code (hts _ w_246)) ⟨by decide, by decide⟩ rfl rfl rfl d_LC_swap_43) (c_LC_requireRange h0 σ n (1 : Int32) (99 : Int32)) (xs_cw h0 hW0 m_246) (hts _ w_34) ⟨rfl, rfl, Nat.le_of_ble_eq_true rfl, Nat.le_of_ble_eq_true rfl⟩ (hl.1.trans hml.symm) (by rw [hb]; exact d_LC_swap_43) (Nat.le_of_ble_eq_true rfl) ⟨Nat.le_of_ble_eq_true rfl, Nat.le_of_ble_eq_true rfl⟩ hX ⟨hW0, xo_S hS⟩ (fun v43 hM43 => ?_) (fun E43 x43 H43 hM43 hE43 he43 => ?_)
            · rw [hM43] at hR
              dsimp only [xbp] at hR
              refine lv_iload_n hx hb d_LC_swap_46 rfl (lv_at hl 5 rfl) ?_
              refine lv_iload hx hb d_LC_swap_47 (lv_at hl 6 rfl) ?_
              refine xc_f (rest := []) (x_invS (argsL := [.int cup, .int it]) hx hb hown (hts _ w_358) (hts _ w_312) (hts _ w_34) (x_code (hts _ w_313)) ⟨by decide, by decide⟩ rfl rfl rfl d_LC_swap_49) (c_LC_cellOf h0 σ cup it) (xs_cw h0 hW0 m_313) (hts _ w_34) ⟨rfl, rfl, Nat.le_of_ble_eq_true rfl, Nat.le_of_ble_eq_true rfl⟩ (hl.1.trans hml.symm) (by rw [hb]; exact d_LC_swap_49) (Nat.le_of_ble_eq_true rfl) ⟨Nat.le_of_ble_eq_true rfl, Nat.le_of_ble_eq_true rfl⟩ hX ⟨hW0, xo_S hS⟩ ?_
              refine lv_istore (lv' := [(8, .int (S_LC_cellOf σ cup it)), (7, .ref (xB s0 + XA 9 v9)), (6, .ref (xB s0 + XA 9 v2)), (0, .ref (xB s0 + XA 0 0)), (1, .int v), (2, .int u), (3, .int cup), (4, .int it), (5, .int n)]) hx hb d_LC_swap_52 hl (by decide) rfl (fun ls hl => ?_)
              refine lv_aload hx hb d_LC_swap_54 (lv_at hl 2 rfl) ?_
              refine lv_iload hx hb d_LC_swap_56 (lv_at hl 0 rfl) ?_
              refine lv_iload hx hb d_LC_swap_58 (lv_at hl 8 rfl) ?_
              refine xc_p (rest := []) (x_invS (argsL := [.ref (xB s0 + XA 9 v2), .int (S_LC_cellOf σ cup it), .int n]) hx hb hown (hts _ w_410) (hts _ w_411) (hts _ w_34) (x_code (hts _ w_412)) ⟨by decide, by decide⟩ rfl rfl rfl d_LC_swap_60) (c_LC_requireSoMany h0 σ v2 (S_LC_cellOf σ cup it) n f2 (o_cell f30 f35)) (xs_cw h0 hW0 m_412) (hts _ w_34) ⟨rfl, rfl, Nat.le_of_ble_eq_true rfl, Nat.le_of_ble_eq_true rfl⟩ (hl.1.trans hml.symm) (by rw [hb]; exact d_LC_swap_60) (Nat.le_of_ble_eq_true rfl) ⟨Nat.le_of_ble_eq_true rfl, Nat.le_of_ble_eq_true rfl⟩ hX ⟨hW0, xo_S hS⟩ (fun v60 hM60 => ?_) (fun E60 x60 H60 hM60 hE60 he60 => ?_)
              · rw [hM60] at hR
                dsimp only [xbp] at hR
                refine lv_aload_n hx hb d_LC_swap_63 rfl (lv_at hl 3 rfl) ?_
                refine lv_aload hx hb d_LC_swap_64 (lv_at hl 1 rfl) ?_
                refine lv_iload hx hb d_LC_swap_66 (lv_at hl 0 rfl) ?_
                refine lv_iload hx hb d_LC_swap_68 (lv_at hl 8 rfl) ?_
                obtain ⟨cB70, hcB70, hoB70, hkB70⟩ := xw_recv (r := 0) (i := 0) hK hX (by decide) rfl rfl
                refine xc_p (rest := []) (x_invV (argsL := [.ref (xB s0 + XA 9 v9), .int (S_LC_cellOf σ cup it), .int n]) hx hb hown (hts _ w_374) (hts _ w_376) (hts _ w_5) (x_code (hts _ w_377)) ⟨by decide, by decide⟩ hcB70 hoB70 hkB70 rfl rfl rfl d_LC_swap_70) (c_LC_requireBearable h0 σ v9 (S_LC_cellOf σ cup it) n f9 (o_cell f30 f35)) (xs_cw h0 hW0 m_377) (hts _ w_34) ⟨rfl, rfl, Nat.le_of_ble_eq_true rfl, Nat.le_of_ble_eq_true rfl⟩ (hl.1.trans hml.symm) (by rw [hb]; exact d_LC_swap_70) (Nat.le_of_ble_eq_true rfl) ⟨Nat.le_of_ble_eq_true rfl, Nat.le_of_ble_eq_true rfl⟩ hX ⟨hW0, xo_S hS⟩ (fun v70 hM70 => ?_) (fun E70 x70 H70 hM70 hE70 he70 => ?_)
                · rw [hM70] at hR
                  dsimp only [xbp] at hR
                  refine lv_aload hx hb d_LC_swap_73 (lv_at hl 1 rfl) ?_
                  refine lv_iload hx hb d_LC_swap_75 (lv_at hl 0 rfl) ?_
                  refine lv_iload hx hb d_LC_swap_77 (lv_at hl 8 rfl) ?_
                  refine xc_p (rest := []) (x_invS (argsL := [.ref (xB s0 + XA 9 v9), .int (S_LC_cellOf σ cup it), .int n]) hx hb hown (hts _ w_395) (hts _ w_396) (hts _ w_34) (x_code (hts _ w_397)) ⟨by decide, by decide⟩ rfl rfl rfl d_LC_swap_79) (c_LC_requireRoom h0 σ v9 (S_LC_cellOf σ cup it) n f9 (o_cell f30 f35)) (xs_cw h0 hW0 m_397) (hts _ w_34) ⟨rfl, rfl, Nat.le_of_ble_eq_true rfl, Nat.le_of_ble_eq_true rfl⟩ (hl.1.trans hml.symm) (by rw [hb]; exact d_LC_swap_79) (Nat.le_of_ble_eq_true rfl) ⟨Nat.le_of_ble_eq_true rfl, Nat.le_of_ble_eq_true rfl⟩ hX ⟨hW0, xo_S hS⟩ (fun v79 hM79 => ?_) (fun E79 x79 H79 hM79 hE79 he79 => ?_)
                  · rw [hM79] at hR
                    dsimp only [xbp] at hR
                    refine lv_aload hx hb d_LC_swap_82 (lv_at hl 2 rfl) ?_
                    refine lv_iload hx hb d_LC_swap_84 (lv_at hl 0 rfl) ?_
                    refine lv_iload hx hb d_LC_swap_86 (lv_at hl 8 rfl) ?_
                    refine lv_ineg hx hb d_LC_swap_88 ?_
                    refine lv_aload_n hx hb d_LC_swap_89 rfl (lv_at hl 3 rfl) ?_
                    refine xw_get (C := R_LC) (T := F_LC) (N := 9) (r := 0) (i := 0) hx hb hts hi_LC hown hK hX (by decide) rfl rfl 0 (by decide) (hts _ w_133) rfl rfl d_LC_swap_90 ?_
                    refine lv_iload hx hb d_LC_swap_93 (lv_at hl 7 rfl) ?_
                    refine xw_iald (r := 1) (i := 0) hx hb hK hX (by decide) 0 rfl rfl (j := it) f35 d_LC_swap_95 ?_
                    obtain ⟨cB96, hcB96, hoB96, hkB96⟩ := xw_recv (r := 9) (i := v2) hK hX f2 rfl rfl
                    refine xc_s (rest := []) (x_invVN (argsL := [.int (S_LC_cellOf σ cup it), .int (-n), .int (σ.1 1 0 it.toNatClampNeg)]) hx hb hown (xs_M h0 hW0 m_399) (hts _ w_401) (hts _ w_10) (x_code (hts _ w_402)) ⟨by decide, by decide⟩ hcB96 hoB96 hkB96 rfl rfl rfl d_LC_swap_96) (c_VE_load h0 σ v2 (S_LC_cellOf σ cup it) (-n) (σ.1 1 0 it.toNatClampNeg) f2 (o_cell f30 f35)) (xs_cw h0 hW0 m_402) (hts _ w_36) ⟨rfl, rfl, Nat.le_of_ble_eq_true rfl, Nat.le_of_ble_eq_true rfl⟩ (hl.1.trans hml.symm) (by rw [hb]; exact d_LC_swap_96) (Nat.le_of_ble_eq_true rfl) ⟨Nat.le_of_ble_eq_true rfl, Nat.le_of_ble_eq_true rfl⟩ hX hW0 hS (fun v96 σ96 H locs hM96 hX hS => ?_) (fun E x H1 locs1 hM => by cases hM)
                    obtain ⟨ev96, es96⟩ := x_inl hM96
                    subst es96
                    refine lv_aload hx hb d_LC_swap_99 (lv_at hl 1 rfl) ?_
                    refine lv_iload hx hb d_LC_swap_101 (lv_at hl 0 rfl) ?_
                    refine lv_iload hx hb d_LC_swap_103 (lv_at hl 8 rfl) ?_
                    refine lv_aload_n hx hb d_LC_swap_105 rfl (lv_at hl 3 rfl) ?_
                    refine xw_get (C := R_LC) (T := F_LC) (N := 9) (r := 0) (i := 0) hx hb hts hi_LC hown hK hX (by decide) rfl rfl 0 (by decide) (hts _ w_133) rfl rfl d_LC_swap_106 ?_
                    refine lv_iload hx hb d_LC_swap_109 (lv_at hl 7 rfl) ?_
                    refine xw_iald (r := 1) (i := 0) hx hb hK hX (by decide) 0 rfl rfl (j := it) f35 d_LC_swap_111 ?_
                    obtain ⟨cB112, hcB112, hoB112, hkB112⟩ := xw_recv (r := 9) (i := v9) hK hX f9 rfl rfl
                    refine xc_s (rest := []) (x_invVN (argsL := [.int (S_LC_cellOf σ cup it), .int n, .int (((S_VE_load σ v2 (S_LC_cellOf σ cup it) (-n) (σ.1 1 0 it.toNatClampNeg)).2).1 1 0 it.toNatClampNeg)]) hx hb hown (xs_M h0 hW0 m_399) (hts _ w_401) (hts _ w_10) (x_code (hts _ w_402)) ⟨by decide, by decide⟩ hcB112 hoB112 hkB112 rfl rfl rfl d_LC_swap_112) (c_VE_load h0 ((S_VE_load σ v2 (S_LC_cellOf σ cup it) (-n) (σ.1 1 0 it.toNatClampNeg)).2) v9 (S_LC_cellOf σ cup it) n (((S_VE_load σ v2 (S_LC_cellOf σ cup it) (-n) (σ.1 1 0 it.toNatClampNeg)).2).1 1 0 it.toNatClampNeg) f9 (o_cell f30 f35)) (xs_cw h0 hW0 m_402) (hts _ w_36) ⟨rfl, rfl, Nat.le_of_ble_eq_true rfl, Nat.le_of_ble_eq_true rfl⟩ (hl.1.trans hml.symm) (by rw [hb]; exact d_LC_swap_112) (Nat.le_of_ble_eq_true rfl) ⟨Nat.le_of_ble_eq_true rfl, Nat.le_of_ble_eq_true rfl⟩ hX hW0 hS (fun v112 σ112 H locs hM112 hX hS => ?_) (fun E x H1 locs1 hM => by cases hM)
                    obtain ⟨ev112, es112⟩ := x_inl hM112
                    subst es112
                    refine lv_aload_n hx hb d_LC_swap_115 rfl (lv_at hl 3 rfl) ?_
                    refine xw_get (C := R_LC) (T := F_LC) (N := 9) (r := 0) (i := 0) hx hb hts hi_LC hown hK hX (by decide) rfl rfl 5 (by decide) (hts _ w_138) rfl rfl d_LC_swap_116 ?_
                    refine lv_iload_n hx hb d_LC_swap_119 rfl (lv_at hl 4 rfl) ?_
                    refine lv_iload hx hb d_LC_swap_120 (lv_at hl 7 rfl) ?_
                    refine lv_iload hx hb d_LC_swap_122 (lv_at hl 8 rfl) ?_
                    refine lv_ineg hx hb d_LC_swap_124 ?_
                    obtain ⟨cB125, hcB125, hoB125, hkB125⟩ := xw_recv (r := 7) (i := 0) hK hX (by decide) rfl rfl
                    refine xc_s (rest := []) (x_invVN (argsL := [.int v, .int it, .int (-n)]) hx hb hown (xs_M h0 hW0 m_439) (hts _ w_441) (hts _ w_12) (x_code (hts _ w_442)) ⟨by decide, by decide⟩ hcB125 hoB125 hkB125 rfl rfl rfl d_LC_swap_125) (c_RW_add h0 ((S_VE_load ((S_VE_load σ v2 (S_LC_cellOf σ cup it) (-n) (σ.1 1 0 it.toNatClampNeg)).2) v9 (S_LC_cellOf σ cup it) n (((S_VE_load σ v2 (S_LC_cellOf σ cup it) (-n) (σ.1 1 0 it.toNatClampNeg)).2).1 1 0 it.toNatClampNeg)).2) v it (-n) (o_sw1 hok)) (xs_cw h0 hW0 m_442) (hts _ w_35) ⟨rfl, rfl, Nat.le_of_ble_eq_true rfl, Nat.le_of_ble_eq_true rfl⟩ (hl.1.trans hml.symm) (by rw [hb]; exact d_LC_swap_125) (Nat.le_of_ble_eq_true rfl) ⟨Nat.le_of_ble_eq_true rfl, Nat.le_of_ble_eq_true rfl⟩ hX hW0 hS (fun v125 σ125 H locs hM125 hX hS => ?_) (fun E x H1 locs1 hM => by cases hM)
                    obtain ⟨ev125, es125⟩ := x_inl hM125
                    subst es125
                    refine lv_aload_n hx hb d_LC_swap_128 rfl (lv_at hl 3 rfl) ?_
                    refine xw_get (C := R_LC) (T := F_LC) (N := 9) (r := 0) (i := 0) hx hb hts hi_LC hown hK hX (by decide) rfl rfl 5 (by decide) (hts _ w_138) rfl rfl d_LC_swap_129 ?_
                    refine lv_iload_n hx hb d_LC_swap_132 rfl (lv_at hl 5 rfl) ?_
                    refine lv_iload hx hb d_LC_swap_133 (lv_at hl 7 rfl) ?_
                    refine lv_iload hx hb d_LC_swap_135 (lv_at hl 8 rfl) ?_
                    obtain ⟨cB137, hcB137, hoB137, hkB137⟩ := xw_recv (r := 7) (i := 0) hK hX (by decide) rfl rfl
                    refine xc_s (rest := []) (x_invVN (argsL := [.int u, .int it, .int n]) hx hb hown (xs_M h0 hW0 m_439) (hts _ w_441) (hts _ w_12) (x_code (hts _ w_442)) ⟨by decide, by decide⟩ hcB137 hoB137 hkB137 rfl rfl rfl d_LC_swap_137) (c_RW_add h0 ((S_RW_add ((S_VE_load ((S_VE_load σ v2 (S_LC_cellOf σ cup it) (-n) (σ.1 1 0 it.toNatClampNeg)).2) v9 (S_LC_cellOf σ cup it) n (((S_VE_load σ v2 (S_LC_cellOf σ cup it) (-n) (σ.1 1 0 it.toNatClampNeg)).2).1 1 0 it.toNatClampNeg)).2) v it (-n)).2) u it n (o_sw2 hok)) (xs_cw h0 hW0 m_442) (hts _ w_35) ⟨rfl, rfl, Nat.le_of_ble_eq_true rfl, Nat.le_of_ble_eq_true rfl⟩ (hl.1.trans hml.symm) (by rw [hb]; exact d_LC_swap_137) (Nat.le_of_ble_eq_true rfl) ⟨Nat.le_of_ble_eq_true rfl, Nat.le_of_ble_eq_true rfl⟩ hX hW0 hS (fun v137 σ137 H locs hM137 hX hS => ?_) (fun E x H1 locs1 hM => by cases hM)
                    obtain ⟨ev137, es137⟩ := x_inl hM137
                    subst es137
                    subst hR
                    refine W.widen (k := 9) (n := 54) (by decide) (by decide) ?_; exact xs_v hx hb hr hlocks hX hS d_LC_swap_140
                  · rw [hM79] at hR
                    dsimp only [xbp] at hR
                    subst hR
                    refine xt_wid (k := 9) (n := 54) (by decide) (by decide) ?_
                    exact xt_s hlocks hnt hE79 he79 (fun q h => by cases h)
                · rw [hM70] at hR
                  dsimp only [xbp] at hR
                  subst hR
                  refine xt_wid (k := 9) (n := 54) (by decide) (by decide) ?_
                  exact xt_s hlocks hnt hE70 he70 (fun q h => by cases h)
              · rw [hM60] at hR
                dsimp only [xbp] at hR
                subst hR
                refine xt_wid (k := 9) (n := 54) (by decide) (by decide) ?_
                exact xt_s hlocks hnt hE60 he60 (fun q h => by cases h)
            · rw [hM43] at hR
              dsimp only [xbp] at hR
              subst hR
              refine xt_wid (k := 9) (n := 54) (by decide) (by decide) ?_
              exact xt_s hlocks hnt hE43 he43 (fun q h => by cases h)
          · rw [hM35] at hR
            dsimp only [xbp] at hR
            subst hR
            refine xt_wid (k := 9) (n := 54) (by decide) (by decide) ?_
            exact xt_s hlocks hnt hE35 he35 (fun q h => by cases h)
        · rw [hM30] at hR
          dsimp only [xbp] at hR
          subst hR
          refine xt_wid (k := 9) (n := 54) (by decide) (by decide) ?_
          exact xt_s hlocks hnt hE30 he30 (fun q h => by cases h)
      · rw [if_pos c16] at hR
        obtain ⟨qs, hqs⟩ := xs_str h0 hW0 (own := "LoadChecks") (k := 137) (tx := "a vehicle swaps with another one") (by decide +kernel); subst hR; refine W.widen (k := 8) (n := 48) (by decide) (by decide) ?_; exact x_throw hx hb h0.1 hown hlocks hnt (hl.1.trans hml.symm) (hts _ w_174) (hts _ w_42) hqs (x_own hO rfl (oa_IAE h0)) (by decide +kernel) (by decide +kernel) d_LC_swap_19 d_LC_swap_22 d_LC_swap_23 d_LC_swap_25 d_LC_swap_28 (Nat.le_of_ble_eq_true rfl) (Nat.le_of_ble_eq_true rfl) (Nat.le_of_ble_eq_true rfl) (Nat.le_of_ble_eq_true rfl) (fun x t h1 h2 => Or.inr ⟨_, x, rfl, rfl, h1, h2⟩)
    · rw [hM9] at hR
      dsimp only [xbp] at hR
      subst hR
      refine xt_wid (k := 9) (n := 54) (by decide) (by decide) ?_
      exact xt_s hlocks hnt hE9 he9 (fun q h => by cases h)
  · rw [hM2] at hR
    dsimp only [xbp] at hR
    subst hR
    refine xt_wid (k := 9) (n := 54) (by decide) (by decide) ?_
    exact xt_s hlocks hnt hE2 he2 (fun q h => by cases h)
