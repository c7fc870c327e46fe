abbrev rm_MO_isVehicle : Room := { frames := 1, cells := 0, slots := 0, locals := 22 }
def S_MO_isVehicle (σ : XS) (v : Int32) : Int32 := (S_MO_in σ v (0 : Int32) ((σ.1 15 0 6) - (1 : Int32)))
set_option maxHeartbeats 4000000 in
set_option maxRecDepth 100000 in
theorem c_MO_isVehicle {l : Launch} {s0 : State} {A0 : Array Value} {D : va_G} {dA : Nat → ClassId} (h0 : XS0 l s0 A0 D dA) (σ : XS) (v : Int32)  : XMet l y_MO_isVehicle [cw_MO_isVehicle] rm_MO_isVehicle (XP D dA s0 σ [.ref (xB s0 + XA 15 0), .int v]) (XQp xv_i (.inl (S_MO_isVehicle σ v))) 0 0 (fun _ => False) := by
  refine XMet.ofW (cc := b_MO_isVehicle) (maxL := 2) (ret := (some .boolean)) (by decide) rfl ?_
  intro p e s m args below meth c s₁ Bd hml hvA
  obtain ⟨rfl, hX, hO⟩ := hvA
  have hx := Bd.exec
  have hb := Bd.bytes
  have hr := Bd.returns
  have hown : s.vm.findClass "LoadChecksModel" = some m.cls := findClass_of_methodNamed Bd.named
  have hlocks := Bd.notSynchronized
  have hnt : c.exceptionTable.isEmpty = true := Bd.noHandlers (atoms_spec (ws := [cw_MO_isVehicle]) Bd.pre _ List.mem_cons_self)
  have hW0 := hO.1
  have hts := xs_w (args := ([.ref (xB s0 + XA 15 0), .int v] : List Value).toArray) h0 hW0
  have hK := xs_K h0 hW0
  have hl := lv_entry ([.ref (xB s0 + XA 15 0), .int v]) (n := 2) (Nat.le_of_ble_eq_true rfl)
  rw [lg_entry_eq]
  generalize (lg_sl ([.ref (xB s0 + XA 15 0), .int v]) ++ List.replicate (2 - (lg_sl ([.ref (xB s0 + XA 15 0), .int v])).length) Slot.unset).toArray = ls at hl ⊢
  have hl : lv_has ls 2 [(0, .ref (xB s0 + XA 15 0)), (1, .int v)] := hl
  generalize hR : S_MO_isVehicle σ v = res
  unfold S_MO_isVehicle at hR
  refine lv_iload_n hx hb d_MO_isVehicle_0 rfl (lv_at hl 1 rfl) ?_
  refine lv_iconst (v := 0) hx hb d_MO_isVehicle_1 (by decide) ?_
  refine lv_aload_n hx hb d_MO_isVehicle_2 rfl (lv_at hl 0 rfl) ?_
  refine xw_get (C := R_MO) (T := F_MO) (N := 20) (r := 15) (i := 0) hx hb hts hi_MO hown hK hX (by decide) rfl rfl 6 (by decide) (hts _ w_601) rfl rfl d_MO_isVehicle_3 ?_
  refine lv_iconst (v := 1) hx hb d_MO_isVehicle_6 (by decide) ?_
  refine lv_isub hx hb d_MO_isVehicle_7 ?_
  refine xc_f (rest := []) (x_invS (argsL := [.int v, .int (0 : Int32), .int ((σ.1 15 0 6) - (1 : Int32))]) hx hb hown (hts _ w_664) (hts _ w_665) (hts _ w_38) (x_code (hts _ w_666)) ⟨by decide, by decide⟩ rfl rfl rfl d_MO_isVehicle_8) (c_MO_in h0 σ v (0 : Int32) ((σ.1 15 0 6) - (1 : Int32))) (xs_cw h0 hW0 m_666) (hts _ w_38) ⟨rfl, rfl, Nat.le_of_ble_eq_true rfl, Nat.le_of_ble_eq_true rfl⟩ (hl.1.trans hml.symm) (by rw [hb]; exact d_MO_isVehicle_8) (Nat.le_of_ble_eq_true rfl) ⟨Nat.le_of_ble_eq_true rfl, Nat.le_of_ble_eq_true rfl⟩ hX hO ?_
  subst hR
  refine W.widen (k := 0) (n := 0) (by decide) (by decide) ?_; exact xr_z hx hb hr hlocks (by exact nz (nz_in _ _ _ _)) d_MO_isVehicle_11

abbrev rm_MO_isCupboard : Room := { frames := 1, cells := 0, slots := 0, locals := 22 }
def S_MO_isCupboard (σ : XS) (cu : Int32) : Int32 := (S_MO_in σ cu (0 : Int32) (7 : Int32))
set_option maxHeartbeats 4000000 in
set_option maxRecDepth 100000 in
theorem c_MO_isCupboard {l : Launch} {s0 : State} {A0 : Array Value} {D : va_G} {dA : Nat → ClassId} (h0 : XS0 l s0 A0 D dA) (σ : XS) (cu : Int32)  : XMet l y_MO_isCupboard [cw_MO_isCupboard] rm_MO_isCupboard (XP D dA s0 σ [.int cu]) (XQp xv_i (.inl (S_MO_isCupboard σ cu))) 0 0 (fun _ => False) := by
  refine XMet.ofW (cc := b_MO_isCupboard) (maxL := 1) (ret := (some .boolean)) (by decide) rfl ?_
  intro p e s m args below meth c s₁ Bd hml hvA
  obtain ⟨rfl, hX, hO⟩ := hvA
  have hx := Bd.exec
  have hb := Bd.bytes
  have hr := Bd.returns
  have hown : s.vm.findClass "LoadChecksModel" = some m.cls := findClass_of_methodNamed Bd.named
  have hlocks := Bd.notSynchronized
  have hnt : c.exceptionTable.isEmpty = true := Bd.noHandlers (atoms_spec (ws := [cw_MO_isCupboard]) Bd.pre _ List.mem_cons_self)
  have hW0 := hO.1
  have hts := xs_w (args := ([.int cu] : List Value).toArray) h0 hW0
  have hK := xs_K h0 hW0
  have hl := lv_entry ([.int cu]) (n := 1) (Nat.le_of_ble_eq_true rfl)
  rw [lg_entry_eq]
  generalize (lg_sl ([.int cu]) ++ List.replicate (1 - (lg_sl ([.int cu])).length) Slot.unset).toArray = ls at hl ⊢
  have hl : lv_has ls 1 [(0, .int cu)] := hl
  generalize hR : S_MO_isCupboard σ cu = res
  unfold S_MO_isCupboard at hR
  refine lv_iload_n hx hb d_MO_isCupboard_0 rfl (lv_at hl 0 rfl) ?_
  refine lv_iconst (v := 0) hx hb d_MO_isCupboard_1 (by decide) ?_
  refine lv_bipush (v := 7) hx hb d_MO_isCupboard_2 (by decide) ?_
  refine xc_f (rest := []) (x_invS (argsL := [.int cu, .int (0 : Int32), .int (7 : Int32)]) hx hb hown (hts _ w_664) (hts _ w_665) (hts _ w_38) (x_code (hts _ w_666)) ⟨by decide, by decide⟩ rfl rfl rfl d_MO_isCupboard_4) (c_MO_in h0 σ cu (0 : Int32) (7 : Int32)) (xs_cw h0 hW0 m_666) (hts _ w_38) ⟨rfl, rfl, Nat.le_of_ble_eq_true rfl, Nat.le_of_ble_eq_true rfl⟩ (hl.1.trans hml.symm) (by rw [hb]; exact d_MO_isCupboard_4) (Nat.le_of_ble_eq_true rfl) ⟨Nat.le_of_ble_eq_true rfl, Nat.le_of_ble_eq_true rfl⟩ hX hO ?_
  subst hR
  refine W.widen (k := 0) (n := 0) (by decide) (by decide) ?_; exact xr_z hx hb hr hlocks (by exact nz (nz_in _ _ _ _)) d_MO_isCupboard_7

abbrev rm_MO_isItem : Room := { frames := 1, cells := 0, slots := 0, locals := 22 }
def S_MO_isItem (σ : XS) (it : Int32) : Int32 := (S_MO_in σ it (0 : Int32) (29 : Int32))
set_option maxHeartbeats 4000000 in
set_option maxRecDepth 100000 in
theorem c_MO_isItem {l : Launch} {s0 : State} {A0 : Array Value} {D : va_G} {dA : Nat → ClassId} (h0 : XS0 l s0 A0 D dA) (σ : XS) (it : Int32)  : XMet l y_MO_isItem [cw_MO_isItem] rm_MO_isItem (XP D dA s0 σ [.int it]) (XQp xv_i (.inl (S_MO_isItem σ it))) 0 0 (fun _ => False) := by
  refine XMet.ofW (cc := b_MO_isItem) (maxL := 1) (ret := (some .boolean)) (by decide) rfl ?_
  intro p e s m args below meth c s₁ Bd hml hvA
  obtain ⟨rfl, hX, hO⟩ := hvA
  have hx := Bd.exec
  have hb := Bd.bytes
  have hr := Bd.returns
  have hown : s.vm.findClass "LoadChecksModel" = some m.cls := findClass_of_methodNamed Bd.named
  have hlocks := Bd.notSynchronized
  have hnt : c.exceptionTable.isEmpty = true := Bd.noHandlers (atoms_spec (ws := [cw_MO_isItem]) Bd.pre _ List.mem_cons_self)
  have hW0 := hO.1
  have hts := xs_w (args := ([.int it] : List Value).toArray) h0 hW0
  have hK := xs_K h0 hW0
  have hl := lv_entry ([.int it]) (n := 1) (Nat.le_of_ble_eq_true rfl)
  rw [lg_entry_eq]
  generalize (lg_sl ([.int it]) ++ List.replicate (1 - (lg_sl ([.int it])).length) Slot.unset).toArray = ls at hl ⊢
  have hl : lv_has ls 1 [(0, .int it)] := hl
  generalize hR : S_MO_isItem σ it = res
  unfold S_MO_isItem at hR
  refine lv_iload_n hx hb d_MO_isItem_0 rfl (lv_at hl 0 rfl) ?_
  refine lv_iconst (v := 0) hx hb d_MO_isItem_1 (by decide) ?_
  refine lv_bipush (v := 29) hx hb d_MO_isItem_2 (by decide) ?_
  refine xc_f (rest := []) (x_invS (argsL := [.int it, .int (0 : Int32), .int (29 : Int32)]) hx hb hown (hts _ w_664) (hts _ w_665) (hts _ w_38) (x_code (hts _ w_666)) ⟨by decide, by decide⟩ rfl rfl rfl d_MO_isItem_4) (c_MO_in h0 σ it (0 : Int32) (29 : Int32)) (xs_cw h0 hW0 m_666) (hts _ w_38) ⟨rfl, rfl, Nat.le_of_ble_eq_true rfl, Nat.le_of_ble_eq_true rfl⟩ (hl.1.trans hml.symm) (by rw [hb]; exact d_MO_isItem_4) (Nat.le_of_ble_eq_true rfl) ⟨Nat.le_of_ble_eq_true rfl, Nat.le_of_ble_eq_true rfl⟩ hX hO ?_
  subst hR
  refine W.widen (k := 0) (n := 0) (by decide) (by decide) ?_; exact xr_z hx hb hr hlocks (by exact nz (nz_in _ _ _ _)) d_MO_isItem_7

abbrev rm_MO_isLimit : Room := { frames := 1, cells := 0, slots := 0, locals := 22 }
def S_MO_isLimit (σ : XS) (g : Int32) : Int32 := (S_MO_in σ g (0 : Int32) (20000000 : Int32))
set_option maxHeartbeats 4000000 in
set_option maxRecDepth 100000 in
theorem c_MO_isLimit {l : Launch} {s0 : State} {A0 : Array Value} {D : va_G} {dA : Nat → ClassId} (h0 : XS0 l s0 A0 D dA) (σ : XS) (g : Int32)  : XMet l y_MO_isLimit [cw_MO_isLimit] rm_MO_isLimit (XP D dA s0 σ [.int g]) (XQp xv_i (.inl (S_MO_isLimit σ g))) 0 0 (fun _ => False) := by
  refine XMet.ofW (cc := b_MO_isLimit) (maxL := 1) (ret := (some .boolean)) (by decide) rfl ?_
  intro p e s m args below meth c s₁ Bd hml hvA
  obtain ⟨rfl, hX, hO⟩ := hvA
  have hx := Bd.exec
  have hb := Bd.bytes
  have hr := Bd.returns
  have hown : s.vm.findClass "LoadChecksModel" = some m.cls := findClass_of_methodNamed Bd.named
  have hlocks := Bd.notSynchronized
  have hnt : c.exceptionTable.isEmpty = true := Bd.noHandlers (atoms_spec (ws := [cw_MO_isLimit]) Bd.pre _ List.mem_cons_self)
  have hW0 := hO.1
  have hts := xs_w (args := ([.int g] : List Value).toArray) h0 hW0
  have hK := xs_K h0 hW0
  have hl := lv_entry ([.int g]) (n := 1) (Nat.le_of_ble_eq_true rfl)
  rw [lg_entry_eq]
  generalize (lg_sl ([.int g]) ++ List.replicate (1 - (lg_sl ([.int g])).length) Slot.unset).toArray = ls at hl ⊢
  have hl : lv_has ls 1 [(0, .int g)] := hl
  generalize hR : S_MO_isLimit σ g = res
  unfold S_MO_isLimit at hR
  refine lv_iload_n hx hb d_MO_isLimit_0 rfl (lv_at hl 0 rfl) ?_
  refine lv_iconst (v := 0) hx hb d_MO_isLimit_1 (by decide) ?_
  refine lv_ldc (v := 20000000) hx hb hown (hts _ w_670) d_MO_isLimit_2 ?_
  refine xc_f (rest := []) (x_invS (argsL := [.int g, .int (0 : Int32), .int (20000000 : Int32)]) hx hb hown (hts _ w_664) (hts _ w_665) (hts _ w_38) (x_code (hts _ w_666)) ⟨by decide, by decide⟩ rfl rfl rfl d_MO_isLimit_4) (c_MO_in h0 σ g (0 : Int32) (20000000 : Int32)) (xs_cw h0 hW0 m_666) (hts _ w_38) ⟨rfl, rfl, Nat.le_of_ble_eq_true rfl, Nat.le_of_ble_eq_true rfl⟩ (hl.1.trans hml.symm) (by rw [hb]; exact d_MO_isLimit_4) (Nat.le_of_ble_eq_true rfl) ⟨Nat.le_of_ble_eq_true rfl, Nat.le_of_ble_eq_true rfl⟩ hX hO ?_
  subst hR
  refine W.widen (k := 0) (n := 0) (by decide) (by decide) ?_; exact xr_z hx hb hr hlocks (by exact nz (nz_in _ _ _ _)) d_MO_isLimit_7

abbrev rm_MO_isThing : Room := { frames := 2, cells := 0, slots := 0, locals := 43 }
def S_MO_isThing (σ : XS) (v : Int32) (cu : Int32) (it : Int32) : Int32 := (if (S_MO_isVehicle σ v) = 0 then (0 : Int32) else (if (S_MO_isCupboard σ cu) = 0 then (0 : Int32) else (if (S_MO_isItem σ it) = 0 then (0 : Int32) else (1 : Int32))))
set_option maxHeartbeats 4000000 in
set_option maxRecDepth 100000 in
theorem c_MO_isThing {l : Launch} {s0 : State} {A0 : Array Value} {D : va_G} {dA : Nat → ClassId} (h0 : XS0 l s0 A0 D dA) (σ : XS) (v : Int32) (cu : Int32) (it : Int32)  : XMet l y_MO_isThing [cw_MO_isThing] rm_MO_isThing (XP D dA s0 σ [.ref (xB s0 + XA 15 0), .int v, .int cu, .int it]) (XQp xv_i (.inl (S_MO_isThing σ v cu it))) 0 0 (fun _ => False) := by
  refine XMet.ofW (cc := b_MO_isThing) (maxL := 4) (ret := (some .boolean)) (by decide) rfl ?_
  intro p e s m args below meth c s₁ Bd hml hvA
  obtain ⟨rfl, hX, hO⟩ := hvA
  have hx := Bd.exec
  have hb := Bd.bytes
  have hr := Bd.returns
  have hown : s.vm.findClass "LoadChecksModel" = some m.cls := findClass_of_methodNamed Bd.named
  have hlocks := Bd.notSynchronized
  have hnt : c.exceptionTable.isEmpty = true := Bd.noHandlers (atoms_spec (ws := [cw_MO_isThing]) Bd.pre _ List.mem_cons_self)
  have hW0 := hO.1
  have hts := xs_w (args := ([.ref (xB s0 + XA 15 0), .int v, .int cu, .int it] : List Value).toArray) h0 hW0
  have hK := xs_K h0 hW0
  have hl := lv_entry ([.ref (xB s0 + XA 15 0), .int v, .int cu, .int it]) (n := 4) (Nat.le_of_ble_eq_true rfl)
  rw [lg_entry_eq]
  generalize (lg_sl ([.ref (xB s0 + XA 15 0), .int v, .int cu, .int it]) ++ List.replicate (4 - (lg_sl ([.ref (xB s0 + XA 15 0), .int v, .int cu, .int it])).length) Slot.unset).toArray = ls at hl ⊢
  have hl : lv_has ls 4 [(0, .ref (xB s0 + XA 15 0)), (1, .int v), (2, .int cu), (3, .int it)] := hl
  generalize hR : S_MO_isThing σ v cu it = res
  unfold S_MO_isThing at hR
  refine lv_aload_n hx hb d_MO_isThing_0 rfl (lv_at hl 0 rfl) ?_
  refine lv_iload_n hx hb d_MO_isThing_1 rfl (lv_at hl 1 rfl) ?_
  obtain ⟨cB2, hcB2, hoB2, hkB2⟩ := xw_recv (r := 15) (i := 0) hK hX (by decide) rfl rfl
  refine xc_f (rest := []) (x_invV (argsL := [.int v]) hx hb hown (hts _ w_679) (hts _ w_681) (hts _ w_21) (x_code (hts _ w_682)) ⟨by decide, by decide⟩ hcB2 hoB2 hkB2 rfl rfl rfl d_MO_isThing_2) (c_MO_isVehicle h0 σ v) (xs_cw h0 hW0 m_682) (hts _ w_38) ⟨rfl, rfl, Nat.le_of_ble_eq_true rfl, Nat.le_of_ble_eq_true rfl⟩ (hl.1.trans hml.symm) (by rw [hb]; exact d_MO_isThing_2) (Nat.le_of_ble_eq_true rfl) ⟨Nat.le_of_ble_eq_true rfl, Nat.le_of_ble_eq_true rfl⟩ hX hO ?_
  refine lv_if_eq (tgt := 26) hx hb d_MO_isThing_5 (by decide) (fun c5 => ?_) (fun c5 => ?_)
  · rw [if_pos c5] at hR
    refine lv_iconst (v := 0) hx hb d_MO_isThing_26 (by decide) ?_
    subst hR
    refine W.widen (k := 0) (n := 0) (by decide) (by decide) ?_; exact xr_z hx hb hr hlocks (by rfl) d_MO_isThing_27
  · rw [if_neg c5] at hR
    refine lv_iload_n hx hb d_MO_isThing_8 rfl (lv_at hl 2 rfl) ?_
    refine xc_f (rest := []) (x_invS (argsL := [.int cu]) hx hb hown (hts _ w_687) (hts _ w_688) (hts _ w_38) (x_code (hts _ w_689)) ⟨by decide, by decide⟩ rfl rfl rfl d_MO_isThing_9) (c_MO_isCupboard h0 σ cu) (xs_cw h0 hW0 m_689) (hts _ w_38) ⟨rfl, rfl, Nat.le_of_ble_eq_true rfl, Nat.le_of_ble_eq_true rfl⟩ (hl.1.trans hml.symm) (by rw [hb]; exact d_MO_isThing_9) (Nat.le_of_ble_eq_true rfl) ⟨Nat.le_of_ble_eq_true rfl, Nat.le_of_ble_eq_true rfl⟩ hX hO ?_
    refine lv_if_eq (tgt := 26) hx hb d_MO_isThing_12 (by decide) (fun c12 => ?_) (fun c12 => ?_)
    · rw [if_pos c12] at hR
      refine lv_iconst (v := 0) hx hb d_MO_isThing_26 (by decide) ?_
      subst hR
      refine W.widen (k := 0) (n := 0) (by decide) (by decide) ?_; exact xr_z hx hb hr hlocks (by rfl) d_MO_isThing_27
    · rw [if_neg c12] at hR
      refine lv_iload_n hx hb d_MO_isThing_15 rfl (lv_at hl 3 rfl) ?_
      refine xc_f (rest := []) (x_invS (argsL := [.int it]) hx hb hown (hts _ w_698) (hts _ w_699) (hts _ w_38) (x_code (hts _ w_700)) ⟨by decide, by decide⟩ rfl rfl rfl d_MO_isThing_16) (c_MO_isItem h0 σ it) (xs_cw h0 hW0 m_700) (hts _ w_38) ⟨rfl, rfl, Nat.le_of_ble_eq_true rfl, Nat.le_of_ble_eq_true rfl⟩ (hl.1.trans hml.symm) (by rw [hb]; exact d_MO_isThing_16) (Nat.le_of_ble_eq_true rfl) ⟨Nat.le_of_ble_eq_true rfl, Nat.le_of_ble_eq_true rfl⟩ hX hO ?_
      refine lv_if_eq (tgt := 26) hx hb d_MO_isThing_19 (by decide) (fun c19 => ?_) (fun c19 => ?_)
      · rw [if_pos c19] at hR
        refine lv_iconst (v := 0) hx hb d_MO_isThing_26 (by decide) ?_
        subst hR
        refine W.widen (k := 0) (n := 0) (by decide) (by decide) ?_; exact xr_z hx hb hr hlocks (by rfl) d_MO_isThing_27
      · rw [if_neg c19] at hR
        refine lv_iconst (v := 1) hx hb d_MO_isThing_22 (by decide) ?_
        refine lv_goto (tgt := 27) hx hb d_MO_isThing_23 (by decide) ?_
        subst hR
        refine W.widen (k := 0) (n := 0) (by decide) (by decide) ?_; exact xr_z hx hb hr hlocks (by rfl) d_MO_isThing_27
