abbrev rm_LW_vehicle : Room := { frames := 9, cells := 5, slots := 30, locals := 150 }
def S_LW_vehicle (σ : XS) (k : Int32) (wb : Int32) (fr : Int32) (re : Int32) : Int32 × XS := xca (S_LC_vehicle σ k wb fr re) (fun v => (0, xuL v.2 31 0 0 (v.1).toInt64)) (fun E => ((if E = "java/lang/IllegalArgumentException" then 1 else (if E = "java/lang/IndexOutOfBoundsException" then 2 else 3)), σ))
set_option maxHeartbeats 8000000 in
set_option maxRecDepth 100000 in
theorem c_LW_vehicle {l : Launch} {s0 : State} {A0 : Array Value} {D : va_G} {dA : Nat → ClassId} (h0 : XS0 l s0 A0 D dA) (σ : XS) (k : Int32) (wb : Int32) (fr : Int32) (re : Int32) (hok : XOk σ) : XMet l y_LW_vehicle [cw_LW_vehicle] rm_LW_vehicle (XP D dA s0 σ [.ref (xB s0 + XA 0 0), .int k, .int wb, .int fr, .int re, .ref (xB s0 + XA 31 0)]) (XQs D dA s0 xv_i (.inl (S_LW_vehicle σ k wb fr re))) 5 30 (xAm s0) := by
  refine XMet.ofWW (cc := b_LW_vehicle) (maxL := 7) (ret := some .int) (hh := [(0, 14, 17, 13), (0, 14, 21, 15), (0, 14, 25, 17)]) (by decide) rfl ?_
  intro p e s m args below meth c s₁ Bd hml ht hvA
  obtain ⟨rfl, hX, hO⟩ := hvA
  have hx := Bd.exec
  have hb := Bd.bytes
  have hr := Bd.returns
  have hown : s.vm.findClass "LoadChecksLaw" = some m.cls := findClass_of_methodNamed Bd.named
  have hlocks := Bd.notSynchronized
  have hW0 := hO.1
  have hts := xs_w (args := ([.ref (xB s0 + XA 0 0), .int k, .int wb, .int fr, .int re, .ref (xB s0 + XA 31 0)] : List Value).toArray) h0 hW0
  have hK := xs_K h0 hW0
  have hS := xo_S0 hO
  obtain ⟨e1, L0, hL0, he1, ht0⟩ := x_tab (f := xEx) ht
  obtain ⟨e2, L1, hL1, he2, ht1⟩ := x_tab (f := xEx) ht0
  obtain ⟨e3, L2, hL2, he3, ht2⟩ := x_tab (f := xEx) ht1
  have htab : c.exceptionTable.toList = [e1, e2, e3] := by rw [hL0, hL1, hL2, List.map_eq_nil_iff.mp ht2]
  have hl := lv_entry ([.ref (xB s0 + XA 0 0), .int k, .int wb, .int fr, .int re, .ref (xB s0 + XA 31 0)]) (n := 7) (Nat.le_of_ble_eq_true rfl)
  rw [lg_entry_eq]
  generalize (lg_sl ([.ref (xB s0 + XA 0 0), .int k, .int wb, .int fr, .int re, .ref (xB s0 + XA 31 0)]) ++ List.replicate (7 - (lg_sl ([.ref (xB s0 + XA 0 0), .int k, .int wb, .int fr, .int re, .ref (xB s0 + XA 31 0)])).length) Slot.unset).toArray = ls at hl ⊢
  have hl : lv_has ls 7 [(0, .ref (xB s0 + XA 0 0)), (1, .int k), (2, .int wb), (3, .int fr), (4, .int re), (5, .ref (xB s0 + XA 31 0))] := hl
  generalize hR : S_LW_vehicle σ k wb fr re = res
  unfold S_LW_vehicle at hR
  refine lv_aload hx hb d_LW_vehicle_0 (lv_at hl 5 rfl) ?_
  refine lv_iconst (v := 0) hx hb d_LW_vehicle_2 (by decide) ?_
  refine lv_aload_n hx hb d_LW_vehicle_3 rfl (lv_at hl 0 rfl) ?_
  refine lv_iload_n hx hb d_LW_vehicle_4 rfl (lv_at hl 1 rfl) ?_
  refine lv_iload_n hx hb d_LW_vehicle_5 rfl (lv_at hl 2 rfl) ?_
  refine lv_iload_n hx hb d_LW_vehicle_6 rfl (lv_at hl 3 rfl) ?_
  refine lv_iload hx hb d_LW_vehicle_7 (lv_at hl 4 rfl) ?_
  obtain ⟨cB, hcB, hoB, hkB⟩ := xw_recv (r := 0) (i := 0) hK hX (by decide) rfl rfl
  refine xc_s (rest := [.int 0, .ref (xB s0 + XA 31 0)]) (x_invV (argsL := [.int k, .int wb, .int fr, .int re]) hx hb hown (hts _ w_167) (hts _ w_168) (hts _ w_169) (x_code (hts _ w_170)) ⟨by decide, by decide⟩ hcB hoB hkB rfl rfl rfl d_LW_vehicle_9) (c_LC_vehicle h0 σ k wb fr re hok) (xs_cw h0 hW0 m_170) (hts _ w_34) ⟨rfl, rfl, Nat.le_of_ble_eq_true rfl, Nat.le_of_ble_eq_true rfl⟩ (hl.1.trans hml.symm) (by rw [hb]; exact d_LW_vehicle_9) (Nat.le_of_ble_eq_true rfl) ⟨Nat.le_of_ble_eq_true rfl, Nat.le_of_ble_eq_true rfl⟩ hX hW0 hS (fun v σ1 H locs hM hX hS => ?_) (fun E x H locs hM hE he hS => ?_)
  · rw [hM] at hR
    dsimp only [xca] at hR
    refine lv_i2l hx hb d_LW_vehicle_12 rfl ?_
    refine xw_last (r := 31) (i := 0) (ent' := XE dA (xB s0) (xuL σ1 31 0 0 (v).toInt64)) hx hb hK xInj hX hS (xA_in _ _ _) (by decide) 2 rfl rfl (j := 0) (pk_in 0 1 (by decide)) ((xe_uL dA (xB s0) σ1 31 0 0 (v).toInt64).trans rfl) (xe_oL dA (xB s0) σ1 31 0 0 (v).toInt64) d_LW_vehicle_13 (fun H locs hX hS => ?_)
    refine lv_goto (tgt := 29) hx hb d_LW_vehicle_14 (by decide) ?_
    refine lv_iconst (v := 0) hx hb d_LW_vehicle_29 (by decide) ?_
    subst hR
    refine W.widen (k := 5) (n := 30) (by decide) (by decide) ?_; exact xs_i hx hb hr hlocks hX hS d_LW_vehicle_30
  · rw [hM] at hR
    dsimp only [xca] at hR
    have hX : XWs D dA s0 σ H := xw_kept hX he.2
    have hm := e_LC_vehicle E hM
    refine xt_wid (k := 5) (n := 30) (by decide) (by decide) ?_
    simp only [List.mem_cons, List.not_mem_nil, or_false] at hm
    rcases hm with rfl | rfl | rfl
    · rw [if_pos rfl] at hR
      refine x_catch (E := "java/lang/IllegalArgumentException") hown [] e1 [e2, e3] htab (fun z hz => by cases hz) he1 (by decide) (by decide) (hts _ w_164) (xs_c h0 hW0 m_176) hE ?_
      refine lv_astore (lv' := [(6, .ref x), (0, .ref (xB s0 + XA 0 0)), (1, .int k), (2, .int wb), (3, .int fr), (4, .int re), (5, .ref (xB s0 + XA 31 0))]) hx hb d_LW_vehicle_17 hl (by decide) rfl (fun ls hl => ?_)
      refine lv_iconst (v := 1) hx hb d_LW_vehicle_19 (by decide) ?_
      subst hR
      exact xs_i hx hb hr hlocks hX hS d_LW_vehicle_20
    · rw [if_neg (by decide), if_pos rfl] at hR
      refine x_catch (E := "java/lang/IndexOutOfBoundsException") hown [e1] e2 [e3] htab (fun z hz => by
        simp only [List.mem_cons, List.not_mem_nil, or_false] at hz
        rcases hz with rfl
        · exact ⟨by rw [(xEx_inv he1).2.2.2]; decide, "java/lang/IllegalArgumentException", by rw [(xEx_inv he1).2.2.2]; exact hts _ w_164, xs_Nc h0 hW0 nc_IOB_IAE⟩) he2 (by decide) (by decide) (hts _ w_165) (xs_c h0 hW0 m_249) hE ?_
      refine lv_astore (lv' := [(6, .ref x), (0, .ref (xB s0 + XA 0 0)), (1, .int k), (2, .int wb), (3, .int fr), (4, .int re), (5, .ref (xB s0 + XA 31 0))]) hx hb d_LW_vehicle_21 hl (by decide) rfl (fun ls hl => ?_)
      refine lv_iconst (v := 2) hx hb d_LW_vehicle_23 (by decide) ?_
      subst hR
      exact xs_i hx hb hr hlocks hX hS d_LW_vehicle_24
    · rw [if_neg (by decide), if_neg (by decide)] at hR
      refine x_catch (E := "java/lang/UnsupportedOperationException") hown [e1, e2] e3 [] htab (fun z hz => by
        simp only [List.mem_cons, List.not_mem_nil, or_false] at hz
        rcases hz with rfl | rfl
        · exact ⟨by rw [(xEx_inv he1).2.2.2]; decide, "java/lang/IllegalArgumentException", by rw [(xEx_inv he1).2.2.2]; exact hts _ w_164, xs_Nc h0 hW0 nc_UOE_IAE⟩
        · exact ⟨by rw [(xEx_inv he2).2.2.2]; decide, "java/lang/IndexOutOfBoundsException", by rw [(xEx_inv he2).2.2.2]; exact hts _ w_165, xs_Nc h0 hW0 nc_UOE_IOB⟩) he3 (by decide) (by decide) (hts _ w_166) (xs_c h0 hW0 m_269) hE ?_
      refine lv_astore (lv' := [(6, .ref x), (0, .ref (xB s0 + XA 0 0)), (1, .int k), (2, .int wb), (3, .int fr), (4, .int re), (5, .ref (xB s0 + XA 31 0))]) hx hb d_LW_vehicle_25 hl (by decide) rfl (fun ls hl => ?_)
      refine lv_iconst (v := 3) hx hb d_LW_vehicle_27 (by decide) ?_
      subst hR
      exact xs_i hx hb hr hlocks hX hS d_LW_vehicle_28

abbrev rm_LW_limits : Room := { frames := 9, cells := 3, slots := 18, locals := 149 }
def S_LW_limits (σ : XS) (v : Int32) (fr : Int32) (re : Int32) : Int32 × XS := xca (S_LC_limits σ v fr re) (fun v => (0, v.2)) (fun E => ((if E = "java/lang/IllegalArgumentException" then 1 else 2), σ))
set_option maxHeartbeats 8000000 in
set_option maxRecDepth 100000 in
theorem c_LW_limits {l : Launch} {s0 : State} {A0 : Array Value} {D : va_G} {dA : Nat → ClassId} (h0 : XS0 l s0 A0 D dA) (σ : XS) (v : Int32) (fr : Int32) (re : Int32) (hok : XOk σ) : XMet l y_LW_limits [cw_LW_limits] rm_LW_limits (XP D dA s0 σ [.ref (xB s0 + XA 0 0), .int v, .int fr, .int re]) (XQs D dA s0 xv_i (.inl (S_LW_limits σ v fr re))) 3 18 (xAm s0) := by
  refine XMet.ofWW (cc := b_LW_limits) (maxL := 5) (ret := some .int) (hh := [(0, 7, 10, 13), (0, 7, 14, 15)]) (by decide) rfl ?_
  intro p e s m args below meth c s₁ Bd hml ht hvA
  obtain ⟨rfl, hX, hO⟩ := hvA
  have hx := Bd.exec
  have hb := Bd.bytes
  have hr := Bd.returns
  have hown : s.vm.findClass "LoadChecksLaw" = some m.cls := findClass_of_methodNamed Bd.named
  have hlocks := Bd.notSynchronized
  have hW0 := hO.1
  have hts := xs_w (args := ([.ref (xB s0 + XA 0 0), .int v, .int fr, .int re] : List Value).toArray) h0 hW0
  have hK := xs_K h0 hW0
  have hS := xo_S0 hO
  obtain ⟨e1, L0, hL0, he1, ht0⟩ := x_tab (f := xEx) ht
  obtain ⟨e2, L1, hL1, he2, ht1⟩ := x_tab (f := xEx) ht0
  have htab : c.exceptionTable.toList = [e1, e2] := by rw [hL0, hL1, List.map_eq_nil_iff.mp ht1]
  have hl := lv_entry ([.ref (xB s0 + XA 0 0), .int v, .int fr, .int re]) (n := 5) (Nat.le_of_ble_eq_true rfl)
  rw [lg_entry_eq]
  generalize (lg_sl ([.ref (xB s0 + XA 0 0), .int v, .int fr, .int re]) ++ List.replicate (5 - (lg_sl ([.ref (xB s0 + XA 0 0), .int v, .int fr, .int re])).length) Slot.unset).toArray = ls at hl ⊢
  have hl : lv_has ls 5 [(0, .ref (xB s0 + XA 0 0)), (1, .int v), (2, .int fr), (3, .int re)] := hl
  generalize hR : S_LW_limits σ v fr re = res
  unfold S_LW_limits at hR
  refine lv_aload_n hx hb d_LW_limits_0 rfl (lv_at hl 0 rfl) ?_
  refine lv_iload_n hx hb d_LW_limits_1 rfl (lv_at hl 1 rfl) ?_
  refine lv_iload_n hx hb d_LW_limits_2 rfl (lv_at hl 2 rfl) ?_
  refine lv_iload_n hx hb d_LW_limits_3 rfl (lv_at hl 3 rfl) ?_
  obtain ⟨cB, hcB, hoB, hkB⟩ := xw_recv (r := 0) (i := 0) hK hX (by decide) rfl rfl
  refine xc_s (rest := []) (x_invV (argsL := [.int v, .int fr, .int re]) hx hb hown (hts _ w_286) (hts _ w_287) (hts _ w_288) (x_code (hts _ w_289)) ⟨by decide, by decide⟩ hcB hoB hkB rfl rfl rfl d_LW_limits_4) (c_LC_limits h0 σ v fr re hok) (xs_cw h0 hW0 m_289) (hts _ w_34) ⟨rfl, rfl, Nat.le_of_ble_eq_true rfl, Nat.le_of_ble_eq_true rfl⟩ (hl.1.trans hml.symm) (by rw [hb]; exact d_LW_limits_4) (Nat.le_of_ble_eq_true rfl) ⟨Nat.le_of_ble_eq_true rfl, Nat.le_of_ble_eq_true rfl⟩ hX hW0 hS (fun v σ1 H locs hM hX hS => ?_) (fun E x H locs hM hE he hS => ?_)
  · rw [hM] at hR
    dsimp only [xca] at hR
    refine lv_goto (tgt := 18) hx hb d_LW_limits_7 (by decide) ?_
    refine lv_iconst (v := 0) hx hb d_LW_limits_18 (by decide) ?_
    subst hR
    refine W.widen (k := 3) (n := 18) (by decide) (by decide) ?_; exact xs_i hx hb hr hlocks hX hS d_LW_limits_19
  · rw [hM] at hR
    dsimp only [xca] at hR
    have hX : XWs D dA s0 σ H := xw_kept hX he.2
    have hm := e_LC_limits E hM
    refine xt_wid (k := 3) (n := 18) (by decide) (by decide) ?_
    simp only [List.mem_cons, List.not_mem_nil, or_false] at hm
    rcases hm with rfl | rfl
    · rw [if_pos rfl] at hR
      refine x_catch (E := "java/lang/IllegalArgumentException") hown [] e1 [e2] htab (fun z hz => by cases hz) he1 (by decide) (by decide) (hts _ w_164) (xs_c h0 hW0 m_176) hE ?_
      refine lv_astore (lv' := [(4, .ref x), (0, .ref (xB s0 + XA 0 0)), (1, .int v), (2, .int fr), (3, .int re)]) hx hb d_LW_limits_10 hl (by decide) rfl (fun ls hl => ?_)
      refine lv_iconst (v := 1) hx hb d_LW_limits_12 (by decide) ?_
      subst hR
      exact xs_i hx hb hr hlocks hX hS d_LW_limits_13
    · rw [if_neg (by decide)] at hR
      refine x_catch (E := "java/lang/IndexOutOfBoundsException") hown [e1] e2 [] htab (fun z hz => by
        simp only [List.mem_cons, List.not_mem_nil, or_false] at hz
        rcases hz with rfl
        · exact ⟨by rw [(xEx_inv he1).2.2.2]; decide, "java/lang/IllegalArgumentException", by rw [(xEx_inv he1).2.2.2]; exact hts _ w_164, xs_Nc h0 hW0 nc_IOB_IAE⟩) he2 (by decide) (by decide) (hts _ w_165) (xs_c h0 hW0 m_249) hE ?_
      refine lv_astore (lv' := [(4, .ref x), (0, .ref (xB s0 + XA 0 0)), (1, .int v), (2, .int fr), (3, .int re)]) hx hb d_LW_limits_14 hl (by decide) rfl (fun ls hl => ?_)
      refine lv_iconst (v := 2) hx hb d_LW_limits_16 (by decide) ?_
      subst hR
      exact xs_i hx hb hr hlocks hX hS d_LW_limits_17

abbrev rm_LW_place : Room := { frames := 8, cells := 4, slots := 24, locals := 128 }
def S_LW_place (σ : XS) (v : Int32) (cup : Int32) (mm : Int32) : Int32 × XS := xca (S_LC_place σ v cup mm) (fun v => (0, v.2)) (fun E => ((if E = "java/lang/IllegalArgumentException" then 1 else (if E = "java/lang/IndexOutOfBoundsException" then 2 else 3)), σ))
set_option maxHeartbeats 8000000 in
set_option maxRecDepth 100000 in
theorem c_LW_place {l : Launch} {s0 : State} {A0 : Array Value} {D : va_G} {dA : Nat → ClassId} (h0 : XS0 l s0 A0 D dA) (σ : XS) (v : Int32) (cup : Int32) (mm : Int32) (hok : XOk σ) : XMet l y_LW_place [cw_LW_place] rm_LW_place (XP D dA s0 σ [.ref (xB s0 + XA 0 0), .int v, .int cup, .int mm]) (XQs D dA s0 xv_i (.inl (S_LW_place σ v cup mm))) 4 24 (xAm s0) := by
  refine XMet.ofWW (cc := b_LW_place) (maxL := 5) (ret := some .int) (hh := [(0, 7, 10, 13), (0, 7, 14, 15), (0, 7, 18, 26)]) (by decide) rfl ?_
  intro p e s m args below meth c s₁ Bd hml ht hvA
  obtain ⟨rfl, hX, hO⟩ := hvA
  have hx := Bd.exec
  have hb := Bd.bytes
  have hr := Bd.returns
  have hown : s.vm.findClass "LoadChecksLaw" = some m.cls := findClass_of_methodNamed Bd.named
  have hlocks := Bd.notSynchronized
  have hW0 := hO.1
  have hts := xs_w (args := ([.ref (xB s0 + XA 0 0), .int v, .int cup, .int mm] : List Value).toArray) h0 hW0
  have hK := xs_K h0 hW0
  have hS := xo_S0 hO
  obtain ⟨e1, L0, hL0, he1, ht0⟩ := x_tab (f := xEx) ht
  obtain ⟨e2, L1, hL1, he2, ht1⟩ := x_tab (f := xEx) ht0
  obtain ⟨e3, L2, hL2, he3, ht2⟩ := x_tab (f := xEx) ht1
  have htab : c.exceptionTable.toList = [e1, e2, e3] := by rw [hL0, hL1, hL2, List.map_eq_nil_iff.mp ht2]
  have hl := lv_entry ([.ref (xB s0 + XA 0 0), .int v, .int cup, .int mm]) (n := 5) (Nat.le_of_ble_eq_true rfl)
  rw [lg_entry_eq]
  generalize (lg_sl ([.ref (xB s0 + XA 0 0), .int v, .int cup, .int mm]) ++ List.replicate (5 - (lg_sl ([.ref (xB s0 + XA 0 0), .int v, .int cup, .int mm])).length) Slot.unset).toArray = ls at hl ⊢
  have hl : lv_has ls 5 [(0, .ref (xB s0 + XA 0 0)), (1, .int v), (2, .int cup), (3, .int mm)] := hl
  generalize hR : S_LW_place σ v cup mm = res
  unfold S_LW_place at hR
  refine lv_aload_n hx hb d_LW_place_0 rfl (lv_at hl 0 rfl) ?_
  refine lv_iload_n hx hb d_LW_place_1 rfl (lv_at hl 1 rfl) ?_
  refine lv_iload_n hx hb d_LW_place_2 rfl (lv_at hl 2 rfl) ?_
  refine lv_iload_n hx hb d_LW_place_3 rfl (lv_at hl 3 rfl) ?_
  obtain ⟨cB, hcB, hoB, hkB⟩ := xw_recv (r := 0) (i := 0) hK hX (by decide) rfl rfl
  refine xc_s (rest := []) (x_invV (argsL := [.int v, .int cup, .int mm]) hx hb hown (hts _ w_299) (hts _ w_300) (hts _ w_301) (x_code (hts _ w_302)) ⟨by decide, by decide⟩ hcB hoB hkB rfl rfl rfl d_LW_place_4) (c_LC_place h0 σ v cup mm hok) (xs_cw h0 hW0 m_302) (hts _ w_34) ⟨rfl, rfl, Nat.le_of_ble_eq_true rfl, Nat.le_of_ble_eq_true rfl⟩ (hl.1.trans hml.symm) (by rw [hb]; exact d_LW_place_4) (Nat.le_of_ble_eq_true rfl) ⟨Nat.le_of_ble_eq_true rfl, Nat.le_of_ble_eq_true rfl⟩ hX hW0 hS (fun v σ1 H locs hM hX hS => ?_) (fun E x H locs hM hE he hS => ?_)
  · rw [hM] at hR
    dsimp only [xca] at hR
    refine lv_goto (tgt := 22) hx hb d_LW_place_7 (by decide) ?_
    refine lv_iconst (v := 0) hx hb d_LW_place_22 (by decide) ?_
    subst hR
    refine W.widen (k := 4) (n := 24) (by decide) (by decide) ?_; exact xs_i hx hb hr hlocks hX hS d_LW_place_23
  · rw [hM] at hR
    dsimp only [xca] at hR
    have hX : XWs D dA s0 σ H := xw_kept hX he.2
    have hm := e_LC_place E hM
    refine xt_wid (k := 4) (n := 24) (by decide) (by decide) ?_
    simp only [List.mem_cons, List.not_mem_nil, or_false] at hm
    rcases hm with rfl | rfl | rfl
    · rw [if_pos rfl] at hR
      refine x_catch (E := "java/lang/IllegalArgumentException") hown [] e1 [e2, e3] htab (fun z hz => by cases hz) he1 (by decide) (by decide) (hts _ w_164) (xs_c h0 hW0 m_176) hE ?_
      refine lv_astore (lv' := [(4, .ref x), (0, .ref (xB s0 + XA 0 0)), (1, .int v), (2, .int cup), (3, .int mm)]) hx hb d_LW_place_10 hl (by decide) rfl (fun ls hl => ?_)
      refine lv_iconst (v := 1) hx hb d_LW_place_12 (by decide) ?_
      subst hR
      exact xs_i hx hb hr hlocks hX hS d_LW_place_13
    · rw [if_neg (by decide), if_pos rfl] at hR
      refine x_catch (E := "java/lang/IndexOutOfBoundsException") hown [e1] e2 [e3] htab (fun z hz => by
        simp only [List.mem_cons, List.not_mem_nil, or_false] at hz
        rcases hz with rfl
        · exact ⟨by rw [(xEx_inv he1).2.2.2]; decide, "java/lang/IllegalArgumentException", by rw [(xEx_inv he1).2.2.2]; exact hts _ w_164, xs_Nc h0 hW0 nc_IOB_IAE⟩) he2 (by decide) (by decide) (hts _ w_165) (xs_c h0 hW0 m_249) hE ?_
      refine lv_astore (lv' := [(4, .ref x), (0, .ref (xB s0 + XA 0 0)), (1, .int v), (2, .int cup), (3, .int mm)]) hx hb d_LW_place_14 hl (by decide) rfl (fun ls hl => ?_)
      refine lv_iconst (v := 2) hx hb d_LW_place_16 (by decide) ?_
      subst hR
      exact xs_i hx hb hr hlocks hX hS d_LW_place_17
    · rw [if_neg (by decide), if_neg (by decide)] at hR
      refine x_catch (E := "java/lang/IllegalStateException") hown [e1, e2] e3 [] htab (fun z hz => by
        simp only [List.mem_cons, List.not_mem_nil, or_false] at hz
        rcases hz with rfl | rfl
        · exact ⟨by rw [(xEx_inv he1).2.2.2]; decide, "java/lang/IllegalArgumentException", by rw [(xEx_inv he1).2.2.2]; exact hts _ w_164, xs_Nc h0 hW0 nc_ISE_IAE⟩
        · exact ⟨by rw [(xEx_inv he2).2.2.2]; decide, "java/lang/IndexOutOfBoundsException", by rw [(xEx_inv he2).2.2.2]; exact hts _ w_165, xs_Nc h0 hW0 nc_ISE_IOB⟩) he3 (by decide) (by decide) (hts _ w_298) (xs_c h0 hW0 m_316) hE ?_
      refine lv_astore (lv' := [(4, .ref x), (0, .ref (xB s0 + XA 0 0)), (1, .int v), (2, .int cup), (3, .int mm)]) hx hb d_LW_place_18 hl (by decide) rfl (fun ls hl => ?_)
      refine lv_iconst (v := 3) hx hb d_LW_place_20 (by decide) ?_
      subst hR
      exact xs_i hx hb hr hlocks hX hS d_LW_place_21

abbrev rm_LW_item : Room := { frames := 8, cells := 4, slots := 24, locals := 127 }
def S_LW_item (σ : XS) (it : Int32) (gr : Int32) (le : Int32) : Int32 × XS := xca (S_LC_item σ it gr le) (fun v => (0, v.2)) (fun E => ((if E = "java/lang/IllegalArgumentException" then 1 else (if E = "java/lang/IndexOutOfBoundsException" then 2 else 3)), σ))
set_option maxHeartbeats 8000000 in
set_option maxRecDepth 100000 in
theorem c_LW_item {l : Launch} {s0 : State} {A0 : Array Value} {D : va_G} {dA : Nat → ClassId} (h0 : XS0 l s0 A0 D dA) (σ : XS) (it : Int32) (gr : Int32) (le : Int32) (hok : XOk σ) : XMet l y_LW_item [cw_LW_item] rm_LW_item (XP D dA s0 σ [.ref (xB s0 + XA 0 0), .int it, .int gr, .int le]) (XQs D dA s0 xv_i (.inl (S_LW_item σ it gr le))) 4 24 (xAm s0) := by
  refine XMet.ofWW (cc := b_LW_item) (maxL := 5) (ret := some .int) (hh := [(0, 7, 10, 13), (0, 7, 14, 15), (0, 7, 18, 26)]) (by decide) rfl ?_
  intro p e s m args below meth c s₁ Bd hml ht hvA
  obtain ⟨rfl, hX, hO⟩ := hvA
  have hx := Bd.exec
  have hb := Bd.bytes
  have hr := Bd.returns
  have hown : s.vm.findClass "LoadChecksLaw" = some m.cls := findClass_of_methodNamed Bd.named
  have hlocks := Bd.notSynchronized
  have hW0 := hO.1
  have hts := xs_w (args := ([.ref (xB s0 + XA 0 0), .int it, .int gr, .int le] : List Value).toArray) h0 hW0
  have hK := xs_K h0 hW0
  have hS := xo_S0 hO
  obtain ⟨e1, L0, hL0, he1, ht0⟩ := x_tab (f := xEx) ht
  obtain ⟨e2, L1, hL1, he2, ht1⟩ := x_tab (f := xEx) ht0
  obtain ⟨e3, L2, hL2, he3, ht2⟩ := x_tab (f := xEx) ht1
  have htab : c.exceptionTable.toList = [e1, e2, e3] := by rw [hL0, hL1, hL2, List.map_eq_nil_iff.mp ht2]
  have hl := lv_entry ([.ref (xB s0 + XA 0 0), .int it, .int gr, .int le]) (n := 5) (Nat.le_of_ble_eq_true rfl)
  rw [lg_entry_eq]
  generalize (lg_sl ([.ref (xB s0 + XA 0 0), .int it, .int gr, .int le]) ++ List.replicate (5 - (lg_sl ([.ref (xB s0 + XA 0 0), .int it, .int gr, .int le])).length) Slot.unset).toArray = ls at hl ⊢
  have hl : lv_has ls 5 [(0, .ref (xB s0 + XA 0 0)), (1, .int it), (2, .int gr), (3, .int le)] := hl
  generalize hR : S_LW_item σ it gr le = res
  unfold S_LW_item at hR
  refine lv_aload_n hx hb d_LW_item_0 rfl (lv_at hl 0 rfl) ?_
  refine lv_iload_n hx hb d_LW_item_1 rfl (lv_at hl 1 rfl) ?_
  refine lv_iload_n hx hb d_LW_item_2 rfl (lv_at hl 2 rfl) ?_
  refine lv_iload_n hx hb d_LW_item_3 rfl (lv_at hl 3 rfl) ?_
  obtain ⟨cB, hcB, hoB, hkB⟩ := xw_recv (r := 0) (i := 0) hK hX (by decide) rfl rfl
  refine xc_s (rest := []) (x_invV (argsL := [.int it, .int gr, .int le]) hx hb hown (hts _ w_333) (hts _ w_334) (hts _ w_335) (x_code (hts _ w_336)) ⟨by decide, by decide⟩ hcB hoB hkB rfl rfl rfl d_LW_item_4) (c_LC_item h0 σ it gr le hok) (xs_cw h0 hW0 m_336) (hts _ w_34) ⟨rfl, rfl, Nat.le_of_ble_eq_true rfl, Nat.le_of_ble_eq_true rfl⟩ (hl.1.trans hml.symm) (by rw [hb]; exact d_LW_item_4) (Nat.le_of_ble_eq_true rfl) ⟨Nat.le_of_ble_eq_true rfl, Nat.le_of_ble_eq_true rfl⟩ hX hW0 hS (fun v σ1 H locs hM hX hS => ?_) (fun E x H locs hM hE he hS => ?_)
  · rw [hM] at hR
    dsimp only [xca] at hR
    refine lv_goto (tgt := 22) hx hb d_LW_item_7 (by decide) ?_
    refine lv_iconst (v := 0) hx hb d_LW_item_22 (by decide) ?_
    subst hR
    refine W.widen (k := 4) (n := 24) (by decide) (by decide) ?_; exact xs_i hx hb hr hlocks hX hS d_LW_item_23
  · rw [hM] at hR
    dsimp only [xca] at hR
    have hX : XWs D dA s0 σ H := xw_kept hX he.2
    have hm := e_LC_item E hM
    refine xt_wid (k := 4) (n := 24) (by decide) (by decide) ?_
    simp only [List.mem_cons, List.not_mem_nil, or_false] at hm
    rcases hm with rfl | rfl | rfl
    · rw [if_pos rfl] at hR
      refine x_catch (E := "java/lang/IllegalArgumentException") hown [] e1 [e2, e3] htab (fun z hz => by cases hz) he1 (by decide) (by decide) (hts _ w_164) (xs_c h0 hW0 m_176) hE ?_
      refine lv_astore (lv' := [(4, .ref x), (0, .ref (xB s0 + XA 0 0)), (1, .int it), (2, .int gr), (3, .int le)]) hx hb d_LW_item_10 hl (by decide) rfl (fun ls hl => ?_)
      refine lv_iconst (v := 1) hx hb d_LW_item_12 (by decide) ?_
      subst hR
      exact xs_i hx hb hr hlocks hX hS d_LW_item_13
    · rw [if_neg (by decide), if_pos rfl] at hR
      refine x_catch (E := "java/lang/IndexOutOfBoundsException") hown [e1] e2 [e3] htab (fun z hz => by
        simp only [List.mem_cons, List.not_mem_nil, or_false] at hz
        rcases hz with rfl
        · exact ⟨by rw [(xEx_inv he1).2.2.2]; decide, "java/lang/IllegalArgumentException", by rw [(xEx_inv he1).2.2.2]; exact hts _ w_164, xs_Nc h0 hW0 nc_IOB_IAE⟩) he2 (by decide) (by decide) (hts _ w_165) (xs_c h0 hW0 m_249) hE ?_
      refine lv_astore (lv' := [(4, .ref x), (0, .ref (xB s0 + XA 0 0)), (1, .int it), (2, .int gr), (3, .int le)]) hx hb d_LW_item_14 hl (by decide) rfl (fun ls hl => ?_)
      refine lv_iconst (v := 2) hx hb d_LW_item_16 (by decide) ?_
      subst hR
      exact xs_i hx hb hr hlocks hX hS d_LW_item_17
    · rw [if_neg (by decide), if_neg (by decide)] at hR
      refine x_catch (E := "java/lang/IllegalStateException") hown [e1, e2] e3 [] htab (fun z hz => by
        simp only [List.mem_cons, List.not_mem_nil, or_false] at hz
        rcases hz with rfl | rfl
        · exact ⟨by rw [(xEx_inv he1).2.2.2]; decide, "java/lang/IllegalArgumentException", by rw [(xEx_inv he1).2.2.2]; exact hts _ w_164, xs_Nc h0 hW0 nc_ISE_IAE⟩
        · exact ⟨by rw [(xEx_inv he2).2.2.2]; decide, "java/lang/IndexOutOfBoundsException", by rw [(xEx_inv he2).2.2.2]; exact hts _ w_165, xs_Nc h0 hW0 nc_ISE_IOB⟩) he3 (by decide) (by decide) (hts _ w_298) (xs_c h0 hW0 m_316) hE ?_
      refine lv_astore (lv' := [(4, .ref x), (0, .ref (xB s0 + XA 0 0)), (1, .int it), (2, .int gr), (3, .int le)]) hx hb d_LW_item_18 hl (by decide) rfl (fun ls hl => ?_)
      refine lv_iconst (v := 3) hx hb d_LW_item_20 (by decide) ?_
      subst hR
      exact xs_i hx hb hr hlocks hX hS d_LW_item_21

abbrev rm_LW_list : Room := { frames := 8, cells := 4, slots := 24, locals := 128 }
def S_LW_list (σ : XS) (k : Int32) (cup : Int32) (it : Int32) (n : Int32) : Int32 × XS := xca (S_LC_list σ k cup it n) (fun v => (0, v.2)) (fun E => ((if E = "java/lang/IllegalArgumentException" then 1 else 2), σ))
set_option maxHeartbeats 8000000 in
set_option maxRecDepth 100000 in
theorem c_LW_list {l : Launch} {s0 : State} {A0 : Array Value} {D : va_G} {dA : Nat → ClassId} (h0 : XS0 l s0 A0 D dA) (σ : XS) (k : Int32) (cup : Int32) (it : Int32) (n : Int32) : XMet l y_LW_list [cw_LW_list] rm_LW_list (XP D dA s0 σ [.ref (xB s0 + XA 0 0), .int k, .int cup, .int it, .int n]) (XQs D dA s0 xv_i (.inl (S_LW_list σ k cup it n))) 4 24 (xAm s0) := by
  refine XMet.ofWW (cc := b_LW_list) (maxL := 6) (ret := some .int) (hh := [(0, 9, 12, 13), (0, 9, 16, 15)]) (by decide) rfl ?_
  intro p e s m args below meth c s₁ Bd hml ht hvA
  obtain ⟨rfl, hX, hO⟩ := hvA
  have hx := Bd.exec
  have hb := Bd.bytes
  have hr := Bd.returns
  have hown : s.vm.findClass "LoadChecksLaw" = some m.cls := findClass_of_methodNamed Bd.named
  have hlocks := Bd.notSynchronized
  have hW0 := hO.1
  have hts := xs_w (args := ([.ref (xB s0 + XA 0 0), .int k, .int cup, .int it, .int n] : List Value).toArray) h0 hW0
  have hK := xs_K h0 hW0
  have hS := xo_S0 hO
  obtain ⟨e1, L0, hL0, he1, ht0⟩ := x_tab (f := xEx) ht
  obtain ⟨e2, L1, hL1, he2, ht1⟩ := x_tab (f := xEx) ht0
  have htab : c.exceptionTable.toList = [e1, e2] := by rw [hL0, hL1, List.map_eq_nil_iff.mp ht1]
  have hl := lv_entry ([.ref (xB s0 + XA 0 0), .int k, .int cup, .int it, .int n]) (n := 6) (Nat.le_of_ble_eq_true rfl)
  rw [lg_entry_eq]
  generalize (lg_sl ([.ref (xB s0 + XA 0 0), .int k, .int cup, .int it, .int n]) ++ List.replicate (6 - (lg_sl ([.ref (xB s0 + XA 0 0), .int k, .int cup, .int it, .int n])).length) Slot.unset).toArray = ls at hl ⊢
  have hl : lv_has ls 6 [(0, .ref (xB s0 + XA 0 0)), (1, .int k), (2, .int cup), (3, .int it), (4, .int n)] := hl
  generalize hR : S_LW_list σ k cup it n = res
  unfold S_LW_list at hR
  refine lv_aload_n hx hb d_LW_list_0 rfl (lv_at hl 0 rfl) ?_
  refine lv_iload_n hx hb d_LW_list_1 rfl (lv_at hl 1 rfl) ?_
  refine lv_iload_n hx hb d_LW_list_2 rfl (lv_at hl 2 rfl) ?_
  refine lv_iload_n hx hb d_LW_list_3 rfl (lv_at hl 3 rfl) ?_
  refine lv_iload hx hb d_LW_list_4 (lv_at hl 4 rfl) ?_
  obtain ⟨cB, hcB, hoB, hkB⟩ := xw_recv (r := 0) (i := 0) hK hX (by decide) rfl rfl
  refine xc_s (rest := []) (x_invV (argsL := [.int k, .int cup, .int it, .int n]) hx hb hown (hts _ w_354) (hts _ w_355) (hts _ w_356) (x_code (hts _ w_357)) ⟨by decide, by decide⟩ hcB hoB hkB rfl rfl rfl d_LW_list_6) (c_LC_list h0 σ k cup it n) (xs_cw h0 hW0 m_357) (hts _ w_34) ⟨rfl, rfl, Nat.le_of_ble_eq_true rfl, Nat.le_of_ble_eq_true rfl⟩ (hl.1.trans hml.symm) (by rw [hb]; exact d_LW_list_6) (Nat.le_of_ble_eq_true rfl) ⟨Nat.le_of_ble_eq_true rfl, Nat.le_of_ble_eq_true rfl⟩ hX hW0 hS (fun v σ1 H locs hM hX hS => ?_) (fun E x H locs hM hE he hS => ?_)
  · rw [hM] at hR
    dsimp only [xca] at hR
    refine lv_goto (tgt := 20) hx hb d_LW_list_9 (by decide) ?_
    refine lv_iconst (v := 0) hx hb d_LW_list_20 (by decide) ?_
    subst hR
    refine W.widen (k := 4) (n := 24) (by decide) (by decide) ?_; exact xs_i hx hb hr hlocks hX hS d_LW_list_21
  · rw [hM] at hR
    dsimp only [xca] at hR
    have hX : XWs D dA s0 σ H := xw_kept hX he.2
    have hm := e_LC_list E hM
    refine xt_wid (k := 4) (n := 24) (by decide) (by decide) ?_
    simp only [List.mem_cons, List.not_mem_nil, or_false] at hm
    rcases hm with rfl | rfl
    · rw [if_pos rfl] at hR
      refine x_catch (E := "java/lang/IllegalArgumentException") hown [] e1 [e2] htab (fun z hz => by cases hz) he1 (by decide) (by decide) (hts _ w_164) (xs_c h0 hW0 m_176) hE ?_
      refine lv_astore (lv' := [(5, .ref x), (0, .ref (xB s0 + XA 0 0)), (1, .int k), (2, .int cup), (3, .int it), (4, .int n)]) hx hb d_LW_list_12 hl (by decide) rfl (fun ls hl => ?_)
      refine lv_iconst (v := 1) hx hb d_LW_list_14 (by decide) ?_
      subst hR
      exact xs_i hx hb hr hlocks hX hS d_LW_list_15
    · rw [if_neg (by decide)] at hR
      refine x_catch (E := "java/lang/IndexOutOfBoundsException") hown [e1] e2 [] htab (fun z hz => by
        simp only [List.mem_cons, List.not_mem_nil, or_false] at hz
        rcases hz with rfl
        · exact ⟨by rw [(xEx_inv he1).2.2.2]; decide, "java/lang/IllegalArgumentException", by rw [(xEx_inv he1).2.2.2]; exact hts _ w_164, xs_Nc h0 hW0 nc_IOB_IAE⟩) he2 (by decide) (by decide) (hts _ w_165) (xs_c h0 hW0 m_249) hE ?_
      refine lv_astore (lv' := [(5, .ref x), (0, .ref (xB s0 + XA 0 0)), (1, .int k), (2, .int cup), (3, .int it), (4, .int n)]) hx hb d_LW_list_16 hl (by decide) rfl (fun ls hl => ?_)
      refine lv_iconst (v := 2) hx hb d_LW_list_18 (by decide) ?_
      subst hR
      exact xs_i hx hb hr hlocks hX hS d_LW_list_19

abbrev rm_LW_stock : Room := { frames := 8, cells := 3, slots := 18, locals := 126 }
def S_LW_stock (σ : XS) (it : Int32) (n : Int32) : Int32 × XS := xca (S_LC_stock σ it n) (fun v => (0, xuL v.2 31 0 0 (v.1).toInt64)) (fun E => ((if E = "java/lang/IllegalArgumentException" then 1 else (if E = "java/lang/IndexOutOfBoundsException" then 2 else 3)), σ))
set_option maxHeartbeats 8000000 in
set_option maxRecDepth 100000 in
theorem c_LW_stock {l : Launch} {s0 : State} {A0 : Array Value} {D : va_G} {dA : Nat → ClassId} (h0 : XS0 l s0 A0 D dA) (σ : XS) (it : Int32) (n : Int32) : XMet l y_LW_stock [cw_LW_stock] rm_LW_stock (XP D dA s0 σ [.ref (xB s0 + XA 0 0), .int it, .int n, .ref (xB s0 + XA 31 0)]) (XQs D dA s0 xv_i (.inl (S_LW_stock σ it n))) 3 18 (xAm s0) := by
  refine XMet.ofWW (cc := b_LW_stock) (maxL := 5) (ret := some .int) (hh := [(0, 10, 13, 13), (0, 10, 17, 15), (0, 10, 21, 17)]) (by decide) rfl ?_
  intro p e s m args below meth c s₁ Bd hml ht hvA
  obtain ⟨rfl, hX, hO⟩ := hvA
  have hx := Bd.exec
  have hb := Bd.bytes
  have hr := Bd.returns
  have hown : s.vm.findClass "LoadChecksLaw" = some m.cls := findClass_of_methodNamed Bd.named
  have hlocks := Bd.notSynchronized
  have hW0 := hO.1
  have hts := xs_w (args := ([.ref (xB s0 + XA 0 0), .int it, .int n, .ref (xB s0 + XA 31 0)] : List Value).toArray) h0 hW0
  have hK := xs_K h0 hW0
  have hS := xo_S0 hO
  obtain ⟨e1, L0, hL0, he1, ht0⟩ := x_tab (f := xEx) ht
  obtain ⟨e2, L1, hL1, he2, ht1⟩ := x_tab (f := xEx) ht0
  obtain ⟨e3, L2, hL2, he3, ht2⟩ := x_tab (f := xEx) ht1
  have htab : c.exceptionTable.toList = [e1, e2, e3] := by rw [hL0, hL1, hL2, List.map_eq_nil_iff.mp ht2]
  have hl := lv_entry ([.ref (xB s0 + XA 0 0), .int it, .int n, .ref (xB s0 + XA 31 0)]) (n := 5) (Nat.le_of_ble_eq_true rfl)
  rw [lg_entry_eq]
  generalize (lg_sl ([.ref (xB s0 + XA 0 0), .int it, .int n, .ref (xB s0 + XA 31 0)]) ++ List.replicate (5 - (lg_sl ([.ref (xB s0 + XA 0 0), .int it, .int n, .ref (xB s0 + XA 31 0)])).length) Slot.unset).toArray = ls at hl ⊢
  have hl : lv_has ls 5 [(0, .ref (xB s0 + XA 0 0)), (1, .int it), (2, .int n), (3, .ref (xB s0 + XA 31 0))] := hl
  generalize hR : S_LW_stock σ it n = res
  unfold S_LW_stock at hR
  refine lv_aload_n hx hb d_LW_stock_0 rfl (lv_at hl 3 rfl) ?_
  refine lv_iconst (v := 0) hx hb d_LW_stock_1 (by decide) ?_
  refine lv_aload_n hx hb d_LW_stock_2 rfl (lv_at hl 0 rfl) ?_
  refine lv_iload_n hx hb d_LW_stock_3 rfl (lv_at hl 1 rfl) ?_
  refine lv_iload_n hx hb d_LW_stock_4 rfl (lv_at hl 2 rfl) ?_
  obtain ⟨cB, hcB, hoB, hkB⟩ := xw_recv (r := 0) (i := 0) hK hX (by decide) rfl rfl
  refine xc_s (rest := [.int 0, .ref (xB s0 + XA 31 0)]) (x_invV (argsL := [.int it, .int n]) hx hb hown (hts _ w_362) (hts _ w_363) (hts _ w_364) (x_code (hts _ w_365)) ⟨by decide, by decide⟩ hcB hoB hkB rfl rfl rfl d_LW_stock_5) (c_LC_stock h0 σ it n) (xs_cw h0 hW0 m_365) (hts _ w_34) ⟨rfl, rfl, Nat.le_of_ble_eq_true rfl, Nat.le_of_ble_eq_true rfl⟩ (hl.1.trans hml.symm) (by rw [hb]; exact d_LW_stock_5) (Nat.le_of_ble_eq_true rfl) ⟨Nat.le_of_ble_eq_true rfl, Nat.le_of_ble_eq_true rfl⟩ hX hW0 hS (fun v σ1 H locs hM hX hS => ?_) (fun E x H locs hM hE he hS => ?_)
  · rw [hM] at hR
    dsimp only [xca] at hR
    refine lv_i2l hx hb d_LW_stock_8 rfl ?_
    refine xw_last (r := 31) (i := 0) (ent' := XE dA (xB s0) (xuL σ1 31 0 0 (v).toInt64)) hx hb hK xInj hX hS (xA_in _ _ _) (by decide) 2 rfl rfl (j := 0) (pk_in 0 1 (by decide)) ((xe_uL dA (xB s0) σ1 31 0 0 (v).toInt64).trans rfl) (xe_oL dA (xB s0) σ1 31 0 0 (v).toInt64) d_LW_stock_9 (fun H locs hX hS => ?_)
    refine lv_goto (tgt := 25) hx hb d_LW_stock_10 (by decide) ?_
    refine lv_iconst (v := 0) hx hb d_LW_stock_25 (by decide) ?_
    subst hR
    refine W.widen (k := 3) (n := 18) (by decide) (by decide) ?_; exact xs_i hx hb hr hlocks hX hS d_LW_stock_26
  · rw [hM] at hR
    dsimp only [xca] at hR
    have hX : XWs D dA s0 σ H := xw_kept hX he.2
    have hm := e_LC_stock E hM
    refine xt_wid (k := 3) (n := 18) (by decide) (by decide) ?_
    simp only [List.mem_cons, List.not_mem_nil, or_false] at hm
    rcases hm with rfl | rfl | rfl
    · rw [if_pos rfl] at hR
      refine x_catch (E := "java/lang/IllegalArgumentException") hown [] e1 [e2, e3] htab (fun z hz => by cases hz) he1 (by decide) (by decide) (hts _ w_164) (xs_c h0 hW0 m_176) hE ?_
      refine lv_astore (lv' := [(4, .ref x), (0, .ref (xB s0 + XA 0 0)), (1, .int it), (2, .int n), (3, .ref (xB s0 + XA 31 0))]) hx hb d_LW_stock_13 hl (by decide) rfl (fun ls hl => ?_)
      refine lv_iconst (v := 1) hx hb d_LW_stock_15 (by decide) ?_
      subst hR
      exact xs_i hx hb hr hlocks hX hS d_LW_stock_16
    · rw [if_neg (by decide), if_pos rfl] at hR
      refine x_catch (E := "java/lang/IndexOutOfBoundsException") hown [e1] e2 [e3] htab (fun z hz => by
        simp only [List.mem_cons, List.not_mem_nil, or_false] at hz
        rcases hz with rfl
        · exact ⟨by rw [(xEx_inv he1).2.2.2]; decide, "java/lang/IllegalArgumentException", by rw [(xEx_inv he1).2.2.2]; exact hts _ w_164, xs_Nc h0 hW0 nc_IOB_IAE⟩) he2 (by decide) (by decide) (hts _ w_165) (xs_c h0 hW0 m_249) hE ?_
      refine lv_astore (lv' := [(4, .ref x), (0, .ref (xB s0 + XA 0 0)), (1, .int it), (2, .int n), (3, .ref (xB s0 + XA 31 0))]) hx hb d_LW_stock_17 hl (by decide) rfl (fun ls hl => ?_)
      refine lv_iconst (v := 2) hx hb d_LW_stock_19 (by decide) ?_
      subst hR
      exact xs_i hx hb hr hlocks hX hS d_LW_stock_20
    · rw [if_neg (by decide), if_neg (by decide)] at hR
      refine x_catch (E := "java/lang/UnsupportedOperationException") hown [e1, e2] e3 [] htab (fun z hz => by
        simp only [List.mem_cons, List.not_mem_nil, or_false] at hz
        rcases hz with rfl | rfl
        · exact ⟨by rw [(xEx_inv he1).2.2.2]; decide, "java/lang/IllegalArgumentException", by rw [(xEx_inv he1).2.2.2]; exact hts _ w_164, xs_Nc h0 hW0 nc_UOE_IAE⟩
        · exact ⟨by rw [(xEx_inv he2).2.2.2]; decide, "java/lang/IndexOutOfBoundsException", by rw [(xEx_inv he2).2.2.2]; exact hts _ w_165, xs_Nc h0 hW0 nc_UOE_IOB⟩) he3 (by decide) (by decide) (hts _ w_166) (xs_c h0 hW0 m_269) hE ?_
      refine lv_astore (lv' := [(4, .ref x), (0, .ref (xB s0 + XA 0 0)), (1, .int it), (2, .int n), (3, .ref (xB s0 + XA 31 0))]) hx hb d_LW_stock_21 hl (by decide) rfl (fun ls hl => ?_)
      refine lv_iconst (v := 3) hx hb d_LW_stock_23 (by decide) ?_
      subst hR
      exact xs_i hx hb hr hlocks hX hS d_LW_stock_24

abbrev rm_LW_put : Room := { frames := 8, cells := 6, slots := 36, locals := 131 }
def S_LW_put (σ : XS) (v : Int32) (cup : Int32) (it : Int32) (n : Int32) : Int32 × XS := xca (S_LC_put σ v cup it n) (fun v => (0, xuL v.2 31 0 0 (v.1).toInt64)) (fun E => ((if E = "java/lang/IllegalArgumentException" then 1 else (if E = "java/lang/IndexOutOfBoundsException" then 2 else (if E = "java/lang/IllegalStateException" then 3 else 4))), σ))
set_option maxHeartbeats 8000000 in
set_option maxRecDepth 100000 in
theorem c_LW_put {l : Launch} {s0 : State} {A0 : Array Value} {D : va_G} {dA : Nat → ClassId} (h0 : XS0 l s0 A0 D dA) (σ : XS) (v : Int32) (cup : Int32) (it : Int32) (n : Int32) (hok : XOk σ) : XMet l y_LW_put [cw_LW_put] rm_LW_put (XP D dA s0 σ [.ref (xB s0 + XA 0 0), .int v, .int cup, .int it, .int n, .ref (xB s0 + XA 31 0)]) (XQs D dA s0 xv_i (.inl (S_LW_put σ v cup it n))) 6 36 (xAm s0) := by
  refine XMet.ofWW (cc := b_LW_put) (maxL := 7) (ret := some .int) (hh := [(0, 14, 17, 13), (0, 14, 21, 15), (0, 14, 25, 26), (0, 14, 29, 17)]) (by decide) rfl ?_
  intro p e s m args below meth c s₁ Bd hml ht hvA
  obtain ⟨rfl, hX, hO⟩ := hvA
  have hx := Bd.exec
  have hb := Bd.bytes
  have hr := Bd.returns
  have hown : s.vm.findClass "LoadChecksLaw" = some m.cls := findClass_of_methodNamed Bd.named
  have hlocks := Bd.notSynchronized
  have hW0 := hO.1
  have hts := xs_w (args := ([.ref (xB s0 + XA 0 0), .int v, .int cup, .int it, .int n, .ref (xB s0 + XA 31 0)] : List Value).toArray) h0 hW0
  have hK := xs_K h0 hW0
  have hS := xo_S0 hO
  obtain ⟨e1, L0, hL0, he1, ht0⟩ := x_tab (f := xEx) ht
  obtain ⟨e2, L1, hL1, he2, ht1⟩ := x_tab (f := xEx) ht0
  obtain ⟨e3, L2, hL2, he3, ht2⟩ := x_tab (f := xEx) ht1
  obtain ⟨e4, L3, hL3, he4, ht3⟩ := x_tab (f := xEx) ht2
  have htab : c.exceptionTable.toList = [e1, e2, e3, e4] := by rw [hL0, hL1, hL2, hL3, List.map_eq_nil_iff.mp ht3]
  have hl := lv_entry ([.ref (xB s0 + XA 0 0), .int v, .int cup, .int it, .int n, .ref (xB s0 + XA 31 0)]) (n := 7) (Nat.le_of_ble_eq_true rfl)
  rw [lg_entry_eq]
  generalize (lg_sl ([.ref (xB s0 + XA 0 0), .int v, .int cup, .int it, .int n, .ref (xB s0 + XA 31 0)]) ++ List.replicate (7 - (lg_sl ([.ref (xB s0 + XA 0 0), .int v, .int cup, .int it, .int n, .ref (xB s0 + XA 31 0)])).length) Slot.unset).toArray = ls at hl ⊢
  have hl : lv_has ls 7 [(0, .ref (xB s0 + XA 0 0)), (1, .int v), (2, .int cup), (3, .int it), (4, .int n), (5, .ref (xB s0 + XA 31 0))] := hl
  generalize hR : S_LW_put σ v cup it n = res
  unfold S_LW_put at hR
  refine lv_aload hx hb d_LW_put_0 (lv_at hl 5 rfl) ?_
  refine lv_iconst (v := 0) hx hb d_LW_put_2 (by decide) ?_
  refine lv_aload_n hx hb d_LW_put_3 rfl (lv_at hl 0 rfl) ?_
  refine lv_iload_n hx hb d_LW_put_4 rfl (lv_at hl 1 rfl) ?_
  refine lv_iload_n hx hb d_LW_put_5 rfl (lv_at hl 2 rfl) ?_
  refine lv_iload_n hx hb d_LW_put_6 rfl (lv_at hl 3 rfl) ?_
  refine lv_iload hx hb d_LW_put_7 (lv_at hl 4 rfl) ?_
  obtain ⟨cB, hcB, hoB, hkB⟩ := xw_recv (r := 0) (i := 0) hK hX (by decide) rfl rfl
  refine xc_s (rest := [.int 0, .ref (xB s0 + XA 31 0)]) (x_invV (argsL := [.int v, .int cup, .int it, .int n]) hx hb hown (hts _ w_370) (hts _ w_371) (hts _ w_372) (x_code (hts _ w_373)) ⟨by decide, by decide⟩ hcB hoB hkB rfl rfl rfl d_LW_put_9) (c_LC_put h0 σ v cup it n hok) (xs_cw h0 hW0 m_373) (hts _ w_34) ⟨rfl, rfl, Nat.le_of_ble_eq_true rfl, Nat.le_of_ble_eq_true rfl⟩ (hl.1.trans hml.symm) (by rw [hb]; exact d_LW_put_9) (Nat.le_of_ble_eq_true rfl) ⟨Nat.le_of_ble_eq_true rfl, Nat.le_of_ble_eq_true rfl⟩ hX hW0 hS (fun v σ1 H locs hM hX hS => ?_) (fun E x H locs hM hE he hS => ?_)
  · rw [hM] at hR
    dsimp only [xca] at hR
    refine lv_i2l hx hb d_LW_put_12 rfl ?_
    refine xw_last (r := 31) (i := 0) (ent' := XE dA (xB s0) (xuL σ1 31 0 0 (v).toInt64)) hx hb hK xInj hX hS (xA_in _ _ _) (by decide) 2 rfl rfl (j := 0) (pk_in 0 1 (by decide)) ((xe_uL dA (xB s0) σ1 31 0 0 (v).toInt64).trans rfl) (xe_oL dA (xB s0) σ1 31 0 0 (v).toInt64) d_LW_put_13 (fun H locs hX hS => ?_)
    refine lv_goto (tgt := 33) hx hb d_LW_put_14 (by decide) ?_
    refine lv_iconst (v := 0) hx hb d_LW_put_33 (by decide) ?_
    subst hR
    refine W.widen (k := 6) (n := 36) (by decide) (by decide) ?_; exact xs_i hx hb hr hlocks hX hS d_LW_put_34
  · rw [hM] at hR
    dsimp only [xca] at hR
    have hX : XWs D dA s0 σ H := xw_kept hX he.2
    have hm := e_LC_put E hM
    refine xt_wid (k := 6) (n := 36) (by decide) (by decide) ?_
    simp only [List.mem_cons, List.not_mem_nil, or_false] at hm
    rcases hm with rfl | rfl | rfl | rfl
    · rw [if_pos rfl] at hR
      refine x_catch (E := "java/lang/IllegalArgumentException") hown [] e1 [e2, e3, e4] htab (fun z hz => by cases hz) he1 (by decide) (by decide) (hts _ w_164) (xs_c h0 hW0 m_176) hE ?_
      refine lv_astore (lv' := [(6, .ref x), (0, .ref (xB s0 + XA 0 0)), (1, .int v), (2, .int cup), (3, .int it), (4, .int n), (5, .ref (xB s0 + XA 31 0))]) hx hb d_LW_put_17 hl (by decide) rfl (fun ls hl => ?_)
      refine lv_iconst (v := 1) hx hb d_LW_put_19 (by decide) ?_
      subst hR
      exact xs_i hx hb hr hlocks hX hS d_LW_put_20
    · rw [if_neg (by decide), if_pos rfl] at hR
      refine x_catch (E := "java/lang/IndexOutOfBoundsException") hown [e1] e2 [e3, e4] htab (fun z hz => by
        simp only [List.mem_cons, List.not_mem_nil, or_false] at hz
        rcases hz with rfl
        · exact ⟨by rw [(xEx_inv he1).2.2.2]; decide, "java/lang/IllegalArgumentException", by rw [(xEx_inv he1).2.2.2]; exact hts _ w_164, xs_Nc h0 hW0 nc_IOB_IAE⟩) he2 (by decide) (by decide) (hts _ w_165) (xs_c h0 hW0 m_249) hE ?_
      refine lv_astore (lv' := [(6, .ref x), (0, .ref (xB s0 + XA 0 0)), (1, .int v), (2, .int cup), (3, .int it), (4, .int n), (5, .ref (xB s0 + XA 31 0))]) hx hb d_LW_put_21 hl (by decide) rfl (fun ls hl => ?_)
      refine lv_iconst (v := 2) hx hb d_LW_put_23 (by decide) ?_
      subst hR
      exact xs_i hx hb hr hlocks hX hS d_LW_put_24
    · rw [if_neg (by decide), if_neg (by decide), if_pos rfl] at hR
      refine x_catch (E := "java/lang/IllegalStateException") hown [e1, e2] e3 [e4] htab (fun z hz => by
        simp only [List.mem_cons, List.not_mem_nil, or_false] at hz
        rcases hz with rfl | rfl
        · exact ⟨by rw [(xEx_inv he1).2.2.2]; decide, "java/lang/IllegalArgumentException", by rw [(xEx_inv he1).2.2.2]; exact hts _ w_164, xs_Nc h0 hW0 nc_ISE_IAE⟩
        · exact ⟨by rw [(xEx_inv he2).2.2.2]; decide, "java/lang/IndexOutOfBoundsException", by rw [(xEx_inv he2).2.2.2]; exact hts _ w_165, xs_Nc h0 hW0 nc_ISE_IOB⟩) he3 (by decide) (by decide) (hts _ w_298) (xs_c h0 hW0 m_316) hE ?_
      refine lv_astore (lv' := [(6, .ref x), (0, .ref (xB s0 + XA 0 0)), (1, .int v), (2, .int cup), (3, .int it), (4, .int n), (5, .ref (xB s0 + XA 31 0))]) hx hb d_LW_put_25 hl (by decide) rfl (fun ls hl => ?_)
      refine lv_iconst (v := 3) hx hb d_LW_put_27 (by decide) ?_
      subst hR
      exact xs_i hx hb hr hlocks hX hS d_LW_put_28
    · rw [if_neg (by decide), if_neg (by decide), if_neg (by decide)] at hR
      refine x_catch (E := "java/lang/UnsupportedOperationException") hown [e1, e2, e3] e4 [] htab (fun z hz => by
        simp only [List.mem_cons, List.not_mem_nil, or_false] at hz
        rcases hz with rfl | rfl | rfl
        · exact ⟨by rw [(xEx_inv he1).2.2.2]; decide, "java/lang/IllegalArgumentException", by rw [(xEx_inv he1).2.2.2]; exact hts _ w_164, xs_Nc h0 hW0 nc_UOE_IAE⟩
        · exact ⟨by rw [(xEx_inv he2).2.2.2]; decide, "java/lang/IndexOutOfBoundsException", by rw [(xEx_inv he2).2.2.2]; exact hts _ w_165, xs_Nc h0 hW0 nc_UOE_IOB⟩
        · exact ⟨by rw [(xEx_inv he3).2.2.2]; decide, "java/lang/IllegalStateException", by rw [(xEx_inv he3).2.2.2]; exact hts _ w_298, xs_Nc h0 hW0 nc_UOE_ISE⟩) he4 (by decide) (by decide) (hts _ w_166) (xs_c h0 hW0 m_269) hE ?_
      refine lv_astore (lv' := [(6, .ref x), (0, .ref (xB s0 + XA 0 0)), (1, .int v), (2, .int cup), (3, .int it), (4, .int n), (5, .ref (xB s0 + XA 31 0))]) hx hb d_LW_put_29 hl (by decide) rfl (fun ls hl => ?_)
      refine lv_iconst (v := 4) hx hb d_LW_put_31 (by decide) ?_
      subst hR
      exact xs_i hx hb hr hlocks hX hS d_LW_put_32

abbrev rm_LW_use : Room := { frames := 8, cells := 5, slots := 30, locals := 130 }
def S_LW_use (σ : XS) (v : Int32) (cup : Int32) (it : Int32) (n : Int32) : Int32 × XS := xca (S_LC_use σ v cup it n) (fun v => (0, xuL v.2 31 0 0 (v.1).toInt64)) (fun E => ((if E = "java/lang/IllegalArgumentException" then 1 else (if E = "java/lang/IndexOutOfBoundsException" then 2 else 3)), σ))
set_option maxHeartbeats 8000000 in
set_option maxRecDepth 100000 in
theorem c_LW_use {l : Launch} {s0 : State} {A0 : Array Value} {D : va_G} {dA : Nat → ClassId} (h0 : XS0 l s0 A0 D dA) (σ : XS) (v : Int32) (cup : Int32) (it : Int32) (n : Int32) (hok : XOk σ) : XMet l y_LW_use [cw_LW_use] rm_LW_use (XP D dA s0 σ [.ref (xB s0 + XA 0 0), .int v, .int cup, .int it, .int n, .ref (xB s0 + XA 31 0)]) (XQs D dA s0 xv_i (.inl (S_LW_use σ v cup it n))) 5 30 (xAm s0) := by
  refine XMet.ofWW (cc := b_LW_use) (maxL := 7) (ret := some .int) (hh := [(0, 14, 17, 13), (0, 14, 21, 15), (0, 14, 25, 26)]) (by decide) rfl ?_
  intro p e s m args below meth c s₁ Bd hml ht hvA
  obtain ⟨rfl, hX, hO⟩ := hvA
  have hx := Bd.exec
  have hb := Bd.bytes
  have hr := Bd.returns
  have hown : s.vm.findClass "LoadChecksLaw" = some m.cls := findClass_of_methodNamed Bd.named
  have hlocks := Bd.notSynchronized
  have hW0 := hO.1
  have hts := xs_w (args := ([.ref (xB s0 + XA 0 0), .int v, .int cup, .int it, .int n, .ref (xB s0 + XA 31 0)] : List Value).toArray) h0 hW0
  have hK := xs_K h0 hW0
  have hS := xo_S0 hO
  obtain ⟨e1, L0, hL0, he1, ht0⟩ := x_tab (f := xEx) ht
  obtain ⟨e2, L1, hL1, he2, ht1⟩ := x_tab (f := xEx) ht0
  obtain ⟨e3, L2, hL2, he3, ht2⟩ := x_tab (f := xEx) ht1
  have htab : c.exceptionTable.toList = [e1, e2, e3] := by rw [hL0, hL1, hL2, List.map_eq_nil_iff.mp ht2]
  have hl := lv_entry ([.ref (xB s0 + XA 0 0), .int v, .int cup, .int it, .int n, .ref (xB s0 + XA 31 0)]) (n := 7) (Nat.le_of_ble_eq_true rfl)
  rw [lg_entry_eq]
  generalize (lg_sl ([.ref (xB s0 + XA 0 0), .int v, .int cup, .int it, .int n, .ref (xB s0 + XA 31 0)]) ++ List.replicate (7 - (lg_sl ([.ref (xB s0 + XA 0 0), .int v, .int cup, .int it, .int n, .ref (xB s0 + XA 31 0)])).length) Slot.unset).toArray = ls at hl ⊢
  have hl : lv_has ls 7 [(0, .ref (xB s0 + XA 0 0)), (1, .int v), (2, .int cup), (3, .int it), (4, .int n), (5, .ref (xB s0 + XA 31 0))] := hl
  generalize hR : S_LW_use σ v cup it n = res
  unfold S_LW_use at hR
  refine lv_aload hx hb d_LW_use_0 (lv_at hl 5 rfl) ?_
  refine lv_iconst (v := 0) hx hb d_LW_use_2 (by decide) ?_
  refine lv_aload_n hx hb d_LW_use_3 rfl (lv_at hl 0 rfl) ?_
  refine lv_iload_n hx hb d_LW_use_4 rfl (lv_at hl 1 rfl) ?_
  refine lv_iload_n hx hb d_LW_use_5 rfl (lv_at hl 2 rfl) ?_
  refine lv_iload_n hx hb d_LW_use_6 rfl (lv_at hl 3 rfl) ?_
  refine lv_iload hx hb d_LW_use_7 (lv_at hl 4 rfl) ?_
  obtain ⟨cB, hcB, hoB, hkB⟩ := xw_recv (r := 0) (i := 0) hK hX (by decide) rfl rfl
  refine xc_s (rest := [.int 0, .ref (xB s0 + XA 31 0)]) (x_invV (argsL := [.int v, .int cup, .int it, .int n]) hx hb hown (hts _ w_406) (hts _ w_407) (hts _ w_408) (x_code (hts _ w_409)) ⟨by decide, by decide⟩ hcB hoB hkB rfl rfl rfl d_LW_use_9) (c_LC_use h0 σ v cup it n hok) (xs_cw h0 hW0 m_409) (hts _ w_34) ⟨rfl, rfl, Nat.le_of_ble_eq_true rfl, Nat.le_of_ble_eq_true rfl⟩ (hl.1.trans hml.symm) (by rw [hb]; exact d_LW_use_9) (Nat.le_of_ble_eq_true rfl) ⟨Nat.le_of_ble_eq_true rfl, Nat.le_of_ble_eq_true rfl⟩ hX hW0 hS (fun v σ1 H locs hM hX hS => ?_) (fun E x H locs hM hE he hS => ?_)
  · rw [hM] at hR
    dsimp only [xca] at hR
    refine lv_i2l hx hb d_LW_use_12 rfl ?_
    refine xw_last (r := 31) (i := 0) (ent' := XE dA (xB s0) (xuL σ1 31 0 0 (v).toInt64)) hx hb hK xInj hX hS (xA_in _ _ _) (by decide) 2 rfl rfl (j := 0) (pk_in 0 1 (by decide)) ((xe_uL dA (xB s0) σ1 31 0 0 (v).toInt64).trans rfl) (xe_oL dA (xB s0) σ1 31 0 0 (v).toInt64) d_LW_use_13 (fun H locs hX hS => ?_)
    refine lv_goto (tgt := 29) hx hb d_LW_use_14 (by decide) ?_
    refine lv_iconst (v := 0) hx hb d_LW_use_29 (by decide) ?_
    subst hR
    refine W.widen (k := 5) (n := 30) (by decide) (by decide) ?_; exact xs_i hx hb hr hlocks hX hS d_LW_use_30
  · rw [hM] at hR
    dsimp only [xca] at hR
    have hX : XWs D dA s0 σ H := xw_kept hX he.2
    have hm := e_LC_use E hM
    refine xt_wid (k := 5) (n := 30) (by decide) (by decide) ?_
    simp only [List.mem_cons, List.not_mem_nil, or_false] at hm
    rcases hm with rfl | rfl | rfl
    · rw [if_pos rfl] at hR
      refine x_catch (E := "java/lang/IllegalArgumentException") hown [] e1 [e2, e3] htab (fun z hz => by cases hz) he1 (by decide) (by decide) (hts _ w_164) (xs_c h0 hW0 m_176) hE ?_
      refine lv_astore (lv' := [(6, .ref x), (0, .ref (xB s0 + XA 0 0)), (1, .int v), (2, .int cup), (3, .int it), (4, .int n), (5, .ref (xB s0 + XA 31 0))]) hx hb d_LW_use_17 hl (by decide) rfl (fun ls hl => ?_)
      refine lv_iconst (v := 1) hx hb d_LW_use_19 (by decide) ?_
      subst hR
      exact xs_i hx hb hr hlocks hX hS d_LW_use_20
    · rw [if_neg (by decide), if_pos rfl] at hR
      refine x_catch (E := "java/lang/IndexOutOfBoundsException") hown [e1] e2 [e3] htab (fun z hz => by
        simp only [List.mem_cons, List.not_mem_nil, or_false] at hz
        rcases hz with rfl
        · exact ⟨by rw [(xEx_inv he1).2.2.2]; decide, "java/lang/IllegalArgumentException", by rw [(xEx_inv he1).2.2.2]; exact hts _ w_164, xs_Nc h0 hW0 nc_IOB_IAE⟩) he2 (by decide) (by decide) (hts _ w_165) (xs_c h0 hW0 m_249) hE ?_
      refine lv_astore (lv' := [(6, .ref x), (0, .ref (xB s0 + XA 0 0)), (1, .int v), (2, .int cup), (3, .int it), (4, .int n), (5, .ref (xB s0 + XA 31 0))]) hx hb d_LW_use_21 hl (by decide) rfl (fun ls hl => ?_)
      refine lv_iconst (v := 2) hx hb d_LW_use_23 (by decide) ?_
      subst hR
      exact xs_i hx hb hr hlocks hX hS d_LW_use_24
    · rw [if_neg (by decide), if_neg (by decide)] at hR
      refine x_catch (E := "java/lang/IllegalStateException") hown [e1, e2] e3 [] htab (fun z hz => by
        simp only [List.mem_cons, List.not_mem_nil, or_false] at hz
        rcases hz with rfl | rfl
        · exact ⟨by rw [(xEx_inv he1).2.2.2]; decide, "java/lang/IllegalArgumentException", by rw [(xEx_inv he1).2.2.2]; exact hts _ w_164, xs_Nc h0 hW0 nc_ISE_IAE⟩
        · exact ⟨by rw [(xEx_inv he2).2.2.2]; decide, "java/lang/IndexOutOfBoundsException", by rw [(xEx_inv he2).2.2.2]; exact hts _ w_165, xs_Nc h0 hW0 nc_ISE_IOB⟩) he3 (by decide) (by decide) (hts _ w_298) (xs_c h0 hW0 m_316) hE ?_
      refine lv_astore (lv' := [(6, .ref x), (0, .ref (xB s0 + XA 0 0)), (1, .int v), (2, .int cup), (3, .int it), (4, .int n), (5, .ref (xB s0 + XA 31 0))]) hx hb d_LW_use_25 hl (by decide) rfl (fun ls hl => ?_)
      refine lv_iconst (v := 3) hx hb d_LW_use_27 (by decide) ?_
      subst hR
      exact xs_i hx hb hr hlocks hX hS d_LW_use_28

abbrev rm_LW_replace : Room := { frames := 8, cells := 1, slots := 6, locals := 130 }
def S_LW_replace (σ : XS) (v : Int32) : Int32 × XS := xca (S_LC_replace σ v) (fun v => (0, xuL v.2 31 0 0 (v.1).toInt64)) (fun E => (1, σ))
set_option maxHeartbeats 8000000 in
set_option maxRecDepth 100000 in
theorem c_LW_replace {l : Launch} {s0 : State} {A0 : Array Value} {D : va_G} {dA : Nat → ClassId} (h0 : XS0 l s0 A0 D dA) (σ : XS) (v : Int32) (hok : XOk σ) : XMet l y_LW_replace [cw_LW_replace] rm_LW_replace (XP D dA s0 σ [.ref (xB s0 + XA 0 0), .int v, .ref (xB s0 + XA 31 0)]) (XQs D dA s0 xv_i (.inl (S_LW_replace σ v))) 1 6 (xAm s0) := by
  refine XMet.ofWW (cc := b_LW_replace) (maxL := 4) (ret := some .int) (hh := [(0, 9, 12, 13)]) (by decide) rfl ?_
  intro p e s m args below meth c s₁ Bd hml ht hvA
  obtain ⟨rfl, hX, hO⟩ := hvA
  have hx := Bd.exec
  have hb := Bd.bytes
  have hr := Bd.returns
  have hown : s.vm.findClass "LoadChecksLaw" = some m.cls := findClass_of_methodNamed Bd.named
  have hlocks := Bd.notSynchronized
  have hW0 := hO.1
  have hts := xs_w (args := ([.ref (xB s0 + XA 0 0), .int v, .ref (xB s0 + XA 31 0)] : List Value).toArray) h0 hW0
  have hK := xs_K h0 hW0
  have hS := xo_S0 hO
  obtain ⟨e1, L0, hL0, he1, ht0⟩ := x_tab (f := xEx) ht
  have htab : c.exceptionTable.toList = [e1] := by rw [hL0, List.map_eq_nil_iff.mp ht0]
  have hl := lv_entry ([.ref (xB s0 + XA 0 0), .int v, .ref (xB s0 + XA 31 0)]) (n := 4) (Nat.le_of_ble_eq_true rfl)
  rw [lg_entry_eq]
  generalize (lg_sl ([.ref (xB s0 + XA 0 0), .int v, .ref (xB s0 + XA 31 0)]) ++ List.replicate (4 - (lg_sl ([.ref (xB s0 + XA 0 0), .int v, .ref (xB s0 + XA 31 0)])).length) Slot.unset).toArray = ls at hl ⊢
  have hl : lv_has ls 4 [(0, .ref (xB s0 + XA 0 0)), (1, .int v), (2, .ref (xB s0 + XA 31 0))] := hl
  generalize hR : S_LW_replace σ v = res
  unfold S_LW_replace at hR
  refine lv_aload_n hx hb d_LW_replace_0 rfl (lv_at hl 2 rfl) ?_
  refine lv_iconst (v := 0) hx hb d_LW_replace_1 (by decide) ?_
  refine lv_aload_n hx hb d_LW_replace_2 rfl (lv_at hl 0 rfl) ?_
  refine lv_iload_n hx hb d_LW_replace_3 rfl (lv_at hl 1 rfl) ?_
  obtain ⟨cB, hcB, hoB, hkB⟩ := xw_recv (r := 0) (i := 0) hK hX (by decide) rfl rfl
  refine xc_s (rest := [.int 0, .ref (xB s0 + XA 31 0)]) (x_invV (argsL := [.int v]) hx hb hown (hts _ w_417) (hts _ w_418) (hts _ w_419) (x_code (hts _ w_420)) ⟨by decide, by decide⟩ hcB hoB hkB rfl rfl rfl d_LW_replace_4) (c_LC_replace h0 σ v hok) (xs_cw h0 hW0 m_420) (hts _ w_34) ⟨rfl, rfl, Nat.le_of_ble_eq_true rfl, Nat.le_of_ble_eq_true rfl⟩ (hl.1.trans hml.symm) (by rw [hb]; exact d_LW_replace_4) (Nat.le_of_ble_eq_true rfl) ⟨Nat.le_of_ble_eq_true rfl, Nat.le_of_ble_eq_true rfl⟩ hX hW0 hS (fun v σ1 H locs hM hX hS => ?_) (fun E x H locs hM hE he hS => ?_)
  · rw [hM] at hR
    dsimp only [xca] at hR
    refine lv_i2l hx hb d_LW_replace_7 rfl ?_
    refine xw_last (r := 31) (i := 0) (ent' := XE dA (xB s0) (xuL σ1 31 0 0 (v).toInt64)) hx hb hK xInj hX hS (xA_in _ _ _) (by decide) 2 rfl rfl (j := 0) (pk_in 0 1 (by decide)) ((xe_uL dA (xB s0) σ1 31 0 0 (v).toInt64).trans rfl) (xe_oL dA (xB s0) σ1 31 0 0 (v).toInt64) d_LW_replace_8 (fun H locs hX hS => ?_)
    refine lv_goto (tgt := 15) hx hb d_LW_replace_9 (by decide) ?_
    refine lv_iconst (v := 0) hx hb d_LW_replace_15 (by decide) ?_
    subst hR
    refine W.widen (k := 1) (n := 6) (by decide) (by decide) ?_; exact xs_i hx hb hr hlocks hX hS d_LW_replace_16
  · rw [hM] at hR
    dsimp only [xca] at hR
    have hX : XWs D dA s0 σ H := xw_kept hX he.2
    have hm := e_LC_replace E hM
    refine xt_wid (k := 1) (n := 6) (by decide) (by decide) ?_
    have hm := List.mem_singleton.mp hm
    subst hm
    refine x_catch (E := "java/lang/IllegalArgumentException") hown [] e1 [] htab (fun z hz => by cases hz) he1 (by decide) (by decide) (hts _ w_164) (xs_c h0 hW0 m_176) hE ?_
    refine lv_astore_n (lv' := [(3, .ref x), (0, .ref (xB s0 + XA 0 0)), (1, .int v), (2, .ref (xB s0 + XA 31 0))]) hx hb d_LW_replace_12 rfl hl (by decide) rfl (fun ls hl => ?_)
    refine lv_iconst (v := 1) hx hb d_LW_replace_13 (by decide) ?_
    subst hR
    exact xs_i hx hb hr hlocks hX hS d_LW_replace_14

abbrev rm_LW_swap : Room := { frames := 8, cells := 9, slots := 54, locals := 133 }
def S_LW_swap (σ : XS) (v : Int32) (u : Int32) (cup : Int32) (it : Int32) (n : Int32) : Int32 × XS := xca (S_LC_swap σ v u cup it n) (fun v => (0, v.2)) (fun E => ((if E = "java/lang/IllegalArgumentException" then 1 else (if E = "java/lang/IndexOutOfBoundsException" then 2 else (if E = "java/lang/IllegalStateException" then 3 else 4))), σ))
set_option maxHeartbeats 8000000 in
set_option maxRecDepth 100000 in
theorem c_LW_swap {l : Launch} {s0 : State} {A0 : Array Value} {D : va_G} {dA : Nat → ClassId} (h0 : XS0 l s0 A0 D dA) (σ : XS) (v : Int32) (u : Int32) (cup : Int32) (it : Int32) (n : Int32) (hok : XOk σ) : XMet l y_LW_swap [cw_LW_swap] rm_LW_swap (XP D dA s0 σ [.ref (xB s0 + XA 0 0), .int v, .int u, .int cup, .int it, .int n]) (XQs D dA s0 xv_i (.inl (S_LW_swap σ v u cup it n))) 9 54 (xAm s0) := by
  refine XMet.ofWW (cc := b_LW_swap) (maxL := 7) (ret := some .int) (hh := [(0, 11, 14, 13), (0, 11, 18, 15), (0, 11, 22, 26), (0, 11, 26, 17)]) (by decide) rfl ?_
  intro p e s m args below meth c s₁ Bd hml ht hvA
  obtain ⟨rfl, hX, hO⟩ := hvA
  have hx := Bd.exec
  have hb := Bd.bytes
  have hr := Bd.returns
  have hown : s.vm.findClass "LoadChecksLaw" = some m.cls := findClass_of_methodNamed Bd.named
  have hlocks := Bd.notSynchronized
  have hW0 := hO.1
  have hts := xs_w (args := ([.ref (xB s0 + XA 0 0), .int v, .int u, .int cup, .int it, .int n] : List Value).toArray) h0 hW0
  have hK := xs_K h0 hW0
  have hS := xo_S0 hO
  obtain ⟨e1, L0, hL0, he1, ht0⟩ := x_tab (f := xEx) ht
  obtain ⟨e2, L1, hL1, he2, ht1⟩ := x_tab (f := xEx) ht0
  obtain ⟨e3, L2, hL2, he3, ht2⟩ := x_tab (f := xEx) ht1
  obtain ⟨e4, L3, hL3, he4, ht3⟩ := x_tab (f := xEx) ht2
  have htab : c.exceptionTable.toList = [e1, e2, e3, e4] := by rw [hL0, hL1, hL2, hL3, List.map_eq_nil_iff.mp ht3]
  have hl := lv_entry ([.ref (xB s0 + XA 0 0), .int v, .int u, .int cup, .int it, .int n]) (n := 7) (Nat.le_of_ble_eq_true rfl)
  rw [lg_entry_eq]
  generalize (lg_sl ([.ref (xB s0 + XA 0 0), .int v, .int u, .int cup, .int it, .int n]) ++ List.replicate (7 - (lg_sl ([.ref (xB s0 + XA 0 0), .int v, .int u, .int cup, .int it, .int n])).length) Slot.unset).toArray = ls at hl ⊢
  have hl : lv_has ls 7 [(0, .ref (xB s0 + XA 0 0)), (1, .int v), (2, .int u), (3, .int cup), (4, .int it), (5, .int n)] := hl
  generalize hR : S_LW_swap σ v u cup it n = res
  unfold S_LW_swap at hR
  refine lv_aload_n hx hb d_LW_swap_0 rfl (lv_at hl 0 rfl) ?_
  refine lv_iload_n hx hb d_LW_swap_1 rfl (lv_at hl 1 rfl) ?_
  refine lv_iload_n hx hb d_LW_swap_2 rfl (lv_at hl 2 rfl) ?_
  refine lv_iload_n hx hb d_LW_swap_3 rfl (lv_at hl 3 rfl) ?_
  refine lv_iload hx hb d_LW_swap_4 (lv_at hl 4 rfl) ?_
  refine lv_iload hx hb d_LW_swap_6 (lv_at hl 5 rfl) ?_
  obtain ⟨cB, hcB, hoB, hkB⟩ := xw_recv (r := 0) (i := 0) hK hX (by decide) rfl rfl
  refine xc_s (rest := []) (x_invV (argsL := [.int v, .int u, .int cup, .int it, .int n]) hx hb hown (hts _ w_434) (hts _ w_435) (hts _ w_436) (x_code (hts _ w_437)) ⟨by decide, by decide⟩ hcB hoB hkB rfl rfl rfl d_LW_swap_8) (c_LC_swap h0 σ v u cup it n hok) (xs_cw h0 hW0 m_437) (hts _ w_34) ⟨rfl, rfl, Nat.le_of_ble_eq_true rfl, Nat.le_of_ble_eq_true rfl⟩ (hl.1.trans hml.symm) (by rw [hb]; exact d_LW_swap_8) (Nat.le_of_ble_eq_true rfl) ⟨Nat.le_of_ble_eq_true rfl, Nat.le_of_ble_eq_true rfl⟩ hX hW0 hS (fun v σ1 H locs hM hX hS => ?_) (fun E x H locs hM hE he hS => ?_)
  · rw [hM] at hR
    dsimp only [xca] at hR
    refine lv_goto (tgt := 30) hx hb d_LW_swap_11 (by decide) ?_
    refine lv_iconst (v := 0) hx hb d_LW_swap_30 (by decide) ?_
    subst hR
    refine W.widen (k := 9) (n := 54) (by decide) (by decide) ?_; exact xs_i hx hb hr hlocks hX hS d_LW_swap_31
  · rw [hM] at hR
    dsimp only [xca] at hR
    have hX : XWs D dA s0 σ H := xw_kept hX he.2
    have hm := e_LC_swap E hM
    refine xt_wid (k := 9) (n := 54) (by decide) (by decide) ?_
    simp only [List.mem_cons, List.not_mem_nil, or_false] at hm
    rcases hm with rfl | rfl | rfl | rfl
    · rw [if_pos rfl] at hR
      refine x_catch (E := "java/lang/IllegalArgumentException") hown [] e1 [e2, e3, e4] htab (fun z hz => by cases hz) he1 (by decide) (by decide) (hts _ w_164) (xs_c h0 hW0 m_176) hE ?_
      refine lv_astore (lv' := [(6, .ref x), (0, .ref (xB s0 + XA 0 0)), (1, .int v), (2, .int u), (3, .int cup), (4, .int it), (5, .int n)]) hx hb d_LW_swap_14 hl (by decide) rfl (fun ls hl => ?_)
      refine lv_iconst (v := 1) hx hb d_LW_swap_16 (by decide) ?_
      subst hR
      exact xs_i hx hb hr hlocks hX hS d_LW_swap_17
    · rw [if_neg (by decide), if_pos rfl] at hR
      refine x_catch (E := "java/lang/IndexOutOfBoundsException") hown [e1] e2 [e3, e4] htab (fun z hz => by
        simp only [List.mem_cons, List.not_mem_nil, or_false] at hz
        rcases hz with rfl
        · exact ⟨by rw [(xEx_inv he1).2.2.2]; decide, "java/lang/IllegalArgumentException", by rw [(xEx_inv he1).2.2.2]; exact hts _ w_164, xs_Nc h0 hW0 nc_IOB_IAE⟩) he2 (by decide) (by decide) (hts _ w_165) (xs_c h0 hW0 m_249) hE ?_
      refine lv_astore (lv' := [(6, .ref x), (0, .ref (xB s0 + XA 0 0)), (1, .int v), (2, .int u), (3, .int cup), (4, .int it), (5, .int n)]) hx hb d_LW_swap_18 hl (by decide) rfl (fun ls hl => ?_)
      refine lv_iconst (v := 2) hx hb d_LW_swap_20 (by decide) ?_
      subst hR
      exact xs_i hx hb hr hlocks hX hS d_LW_swap_21
    · rw [if_neg (by decide), if_neg (by decide), if_pos rfl] at hR
      refine x_catch (E := "java/lang/IllegalStateException") hown [e1, e2] e3 [e4] htab (fun z hz => by
        simp only [List.mem_cons, List.not_mem_nil, or_false] at hz
        rcases hz with rfl | rfl
        · exact ⟨by rw [(xEx_inv he1).2.2.2]; decide, "java/lang/IllegalArgumentException", by rw [(xEx_inv he1).2.2.2]; exact hts _ w_164, xs_Nc h0 hW0 nc_ISE_IAE⟩
        · exact ⟨by rw [(xEx_inv he2).2.2.2]; decide, "java/lang/IndexOutOfBoundsException", by rw [(xEx_inv he2).2.2.2]; exact hts _ w_165, xs_Nc h0 hW0 nc_ISE_IOB⟩) he3 (by decide) (by decide) (hts _ w_298) (xs_c h0 hW0 m_316) hE ?_
      refine lv_astore (lv' := [(6, .ref x), (0, .ref (xB s0 + XA 0 0)), (1, .int v), (2, .int u), (3, .int cup), (4, .int it), (5, .int n)]) hx hb d_LW_swap_22 hl (by decide) rfl (fun ls hl => ?_)
      refine lv_iconst (v := 3) hx hb d_LW_swap_24 (by decide) ?_
      subst hR
      exact xs_i hx hb hr hlocks hX hS d_LW_swap_25
    · rw [if_neg (by decide), if_neg (by decide), if_neg (by decide)] at hR
      refine x_catch (E := "java/lang/UnsupportedOperationException") hown [e1, e2, e3] e4 [] htab (fun z hz => by
        simp only [List.mem_cons, List.not_mem_nil, or_false] at hz
        rcases hz with rfl | rfl | rfl
        · exact ⟨by rw [(xEx_inv he1).2.2.2]; decide, "java/lang/IllegalArgumentException", by rw [(xEx_inv he1).2.2.2]; exact hts _ w_164, xs_Nc h0 hW0 nc_UOE_IAE⟩
        · exact ⟨by rw [(xEx_inv he2).2.2.2]; decide, "java/lang/IndexOutOfBoundsException", by rw [(xEx_inv he2).2.2.2]; exact hts _ w_165, xs_Nc h0 hW0 nc_UOE_IOB⟩
        · exact ⟨by rw [(xEx_inv he3).2.2.2]; decide, "java/lang/IllegalStateException", by rw [(xEx_inv he3).2.2.2]; exact hts _ w_298, xs_Nc h0 hW0 nc_UOE_ISE⟩) he4 (by decide) (by decide) (hts _ w_166) (xs_c h0 hW0 m_269) hE ?_
      refine lv_astore (lv' := [(6, .ref x), (0, .ref (xB s0 + XA 0 0)), (1, .int v), (2, .int u), (3, .int cup), (4, .int it), (5, .int n)]) hx hb d_LW_swap_26 hl (by decide) rfl (fun ls hl => ?_)
      refine lv_iconst (v := 4) hx hb d_LW_swap_28 (by decide) ?_
      subst hR
      exact xs_i hx hb hr hlocks hX hS d_LW_swap_29

abbrev rm_LW_ends : Room := { frames := 8, cells := 3, slots := 18, locals := 128 }
def S_LW_ends (σ : XS) (v : Int32) (it : Int32) (d : Int32) : Int32 × XS := xca (S_LC_ends σ v it d) (fun v => (0, v.2)) (fun E => ((if E = "java/lang/IllegalArgumentException" then 1 else 2), σ))
set_option maxHeartbeats 8000000 in
set_option maxRecDepth 100000 in
theorem c_LW_ends {l : Launch} {s0 : State} {A0 : Array Value} {D : va_G} {dA : Nat → ClassId} (h0 : XS0 l s0 A0 D dA) (σ : XS) (v : Int32) (it : Int32) (d : Int32) (hok : XOk σ) : XMet l y_LW_ends [cw_LW_ends] rm_LW_ends (XP D dA s0 σ [.ref (xB s0 + XA 0 0), .int v, .int it, .int d]) (XQs D dA s0 xv_i (.inl (S_LW_ends σ v it d))) 3 18 (xAm s0) := by
  refine XMet.ofWW (cc := b_LW_ends) (maxL := 5) (ret := some .int) (hh := [(0, 7, 10, 13), (0, 7, 14, 15)]) (by decide) rfl ?_
  intro p e s m args below meth c s₁ Bd hml ht hvA
  obtain ⟨rfl, hX, hO⟩ := hvA
  have hx := Bd.exec
  have hb := Bd.bytes
  have hr := Bd.returns
  have hown : s.vm.findClass "LoadChecksLaw" = some m.cls := findClass_of_methodNamed Bd.named
  have hlocks := Bd.notSynchronized
  have hW0 := hO.1
  have hts := xs_w (args := ([.ref (xB s0 + XA 0 0), .int v, .int it, .int d] : List Value).toArray) h0 hW0
  have hK := xs_K h0 hW0
  have hS := xo_S0 hO
  obtain ⟨e1, L0, hL0, he1, ht0⟩ := x_tab (f := xEx) ht
  obtain ⟨e2, L1, hL1, he2, ht1⟩ := x_tab (f := xEx) ht0
  have htab : c.exceptionTable.toList = [e1, e2] := by rw [hL0, hL1, List.map_eq_nil_iff.mp ht1]
  have hl := lv_entry ([.ref (xB s0 + XA 0 0), .int v, .int it, .int d]) (n := 5) (Nat.le_of_ble_eq_true rfl)
  rw [lg_entry_eq]
  generalize (lg_sl ([.ref (xB s0 + XA 0 0), .int v, .int it, .int d]) ++ List.replicate (5 - (lg_sl ([.ref (xB s0 + XA 0 0), .int v, .int it, .int d])).length) Slot.unset).toArray = ls at hl ⊢
  have hl : lv_has ls 5 [(0, .ref (xB s0 + XA 0 0)), (1, .int v), (2, .int it), (3, .int d)] := hl
  generalize hR : S_LW_ends σ v it d = res
  unfold S_LW_ends at hR
  refine lv_aload_n hx hb d_LW_ends_0 rfl (lv_at hl 0 rfl) ?_
  refine lv_iload_n hx hb d_LW_ends_1 rfl (lv_at hl 1 rfl) ?_
  refine lv_iload_n hx hb d_LW_ends_2 rfl (lv_at hl 2 rfl) ?_
  refine lv_iload_n hx hb d_LW_ends_3 rfl (lv_at hl 3 rfl) ?_
  obtain ⟨cB, hcB, hoB, hkB⟩ := xw_recv (r := 0) (i := 0) hK hX (by decide) rfl rfl
  refine xc_s (rest := []) (x_invV (argsL := [.int v, .int it, .int d]) hx hb hown (hts _ w_447) (hts _ w_448) (hts _ w_449) (x_code (hts _ w_450)) ⟨by decide, by decide⟩ hcB hoB hkB rfl rfl rfl d_LW_ends_4) (c_LC_ends h0 σ v it d hok) (xs_cw h0 hW0 m_450) (hts _ w_34) ⟨rfl, rfl, Nat.le_of_ble_eq_true rfl, Nat.le_of_ble_eq_true rfl⟩ (hl.1.trans hml.symm) (by rw [hb]; exact d_LW_ends_4) (Nat.le_of_ble_eq_true rfl) ⟨Nat.le_of_ble_eq_true rfl, Nat.le_of_ble_eq_true rfl⟩ hX hW0 hS (fun v σ1 H locs hM hX hS => ?_) (fun E x H locs hM hE he hS => ?_)
  · rw [hM] at hR
    dsimp only [xca] at hR
    refine lv_goto (tgt := 18) hx hb d_LW_ends_7 (by decide) ?_
    refine lv_iconst (v := 0) hx hb d_LW_ends_18 (by decide) ?_
    subst hR
    refine W.widen (k := 3) (n := 18) (by decide) (by decide) ?_; exact xs_i hx hb hr hlocks hX hS d_LW_ends_19
  · rw [hM] at hR
    dsimp only [xca] at hR
    have hX : XWs D dA s0 σ H := xw_kept hX he.2
    have hm := e_LC_ends E hM
    refine xt_wid (k := 3) (n := 18) (by decide) (by decide) ?_
    simp only [List.mem_cons, List.not_mem_nil, or_false] at hm
    rcases hm with rfl | rfl
    · rw [if_pos rfl] at hR
      refine x_catch (E := "java/lang/IllegalArgumentException") hown [] e1 [e2] htab (fun z hz => by cases hz) he1 (by decide) (by decide) (hts _ w_164) (xs_c h0 hW0 m_176) hE ?_
      refine lv_astore (lv' := [(4, .ref x), (0, .ref (xB s0 + XA 0 0)), (1, .int v), (2, .int it), (3, .int d)]) hx hb d_LW_ends_10 hl (by decide) rfl (fun ls hl => ?_)
      refine lv_iconst (v := 1) hx hb d_LW_ends_12 (by decide) ?_
      subst hR
      exact xs_i hx hb hr hlocks hX hS d_LW_ends_13
    · rw [if_neg (by decide)] at hR
      refine x_catch (E := "java/lang/IndexOutOfBoundsException") hown [e1] e2 [] htab (fun z hz => by
        simp only [List.mem_cons, List.not_mem_nil, or_false] at hz
        rcases hz with rfl
        · exact ⟨by rw [(xEx_inv he1).2.2.2]; decide, "java/lang/IllegalArgumentException", by rw [(xEx_inv he1).2.2.2]; exact hts _ w_164, xs_Nc h0 hW0 nc_IOB_IAE⟩) he2 (by decide) (by decide) (hts _ w_165) (xs_c h0 hW0 m_249) hE ?_
      refine lv_astore (lv' := [(4, .ref x), (0, .ref (xB s0 + XA 0 0)), (1, .int v), (2, .int it), (3, .int d)]) hx hb d_LW_ends_14 hl (by decide) rfl (fun ls hl => ?_)
      refine lv_iconst (v := 2) hx hb d_LW_ends_16 (by decide) ?_
      subst hR
      exact xs_i hx hb hr hlocks hX hS d_LW_ends_17

abbrev rm_LW_battery : Room := { frames := 8, cells := 3, slots := 18, locals := 128 }
def S_LW_battery (σ : XS) (v : Int32) (it : Int32) (d : Int32) : Int32 × XS := xca (S_LC_battery σ v it d) (fun v => (0, v.2)) (fun E => ((if E = "java/lang/IllegalArgumentException" then 1 else 2), σ))
set_option maxHeartbeats 8000000 in
set_option maxRecDepth 100000 in
theorem c_LW_battery {l : Launch} {s0 : State} {A0 : Array Value} {D : va_G} {dA : Nat → ClassId} (h0 : XS0 l s0 A0 D dA) (σ : XS) (v : Int32) (it : Int32) (d : Int32) (hok : XOk σ) : XMet l y_LW_battery [cw_LW_battery] rm_LW_battery (XP D dA s0 σ [.ref (xB s0 + XA 0 0), .int v, .int it, .int d]) (XQs D dA s0 xv_i (.inl (S_LW_battery σ v it d))) 3 18 (xAm s0) := by
  refine XMet.ofWW (cc := b_LW_battery) (maxL := 5) (ret := some .int) (hh := [(0, 7, 10, 13), (0, 7, 14, 15)]) (by decide) rfl ?_
  intro p e s m args below meth c s₁ Bd hml ht hvA
  obtain ⟨rfl, hX, hO⟩ := hvA
  have hx := Bd.exec
  have hb := Bd.bytes
  have hr := Bd.returns
  have hown : s.vm.findClass "LoadChecksLaw" = some m.cls := findClass_of_methodNamed Bd.named
  have hlocks := Bd.notSynchronized
  have hW0 := hO.1
  have hts := xs_w (args := ([.ref (xB s0 + XA 0 0), .int v, .int it, .int d] : List Value).toArray) h0 hW0
  have hK := xs_K h0 hW0
  have hS := xo_S0 hO
  obtain ⟨e1, L0, hL0, he1, ht0⟩ := x_tab (f := xEx) ht
  obtain ⟨e2, L1, hL1, he2, ht1⟩ := x_tab (f := xEx) ht0
  have htab : c.exceptionTable.toList = [e1, e2] := by rw [hL0, hL1, List.map_eq_nil_iff.mp ht1]
  have hl := lv_entry ([.ref (xB s0 + XA 0 0), .int v, .int it, .int d]) (n := 5) (Nat.le_of_ble_eq_true rfl)
  rw [lg_entry_eq]
  generalize (lg_sl ([.ref (xB s0 + XA 0 0), .int v, .int it, .int d]) ++ List.replicate (5 - (lg_sl ([.ref (xB s0 + XA 0 0), .int v, .int it, .int d])).length) Slot.unset).toArray = ls at hl ⊢
  have hl : lv_has ls 5 [(0, .ref (xB s0 + XA 0 0)), (1, .int v), (2, .int it), (3, .int d)] := hl
  generalize hR : S_LW_battery σ v it d = res
  unfold S_LW_battery at hR
  refine lv_aload_n hx hb d_LW_battery_0 rfl (lv_at hl 0 rfl) ?_
  refine lv_iload_n hx hb d_LW_battery_1 rfl (lv_at hl 1 rfl) ?_
  refine lv_iload_n hx hb d_LW_battery_2 rfl (lv_at hl 2 rfl) ?_
  refine lv_iload_n hx hb d_LW_battery_3 rfl (lv_at hl 3 rfl) ?_
  obtain ⟨cB, hcB, hoB, hkB⟩ := xw_recv (r := 0) (i := 0) hK hX (by decide) rfl rfl
  refine xc_s (rest := []) (x_invV (argsL := [.int v, .int it, .int d]) hx hb hown (hts _ w_454) (hts _ w_455) (hts _ w_456) (x_code (hts _ w_457)) ⟨by decide, by decide⟩ hcB hoB hkB rfl rfl rfl d_LW_battery_4) (c_LC_battery h0 σ v it d hok) (xs_cw h0 hW0 m_457) (hts _ w_34) ⟨rfl, rfl, Nat.le_of_ble_eq_true rfl, Nat.le_of_ble_eq_true rfl⟩ (hl.1.trans hml.symm) (by rw [hb]; exact d_LW_battery_4) (Nat.le_of_ble_eq_true rfl) ⟨Nat.le_of_ble_eq_true rfl, Nat.le_of_ble_eq_true rfl⟩ hX hW0 hS (fun v σ1 H locs hM hX hS => ?_) (fun E x H locs hM hE he hS => ?_)
  · rw [hM] at hR
    dsimp only [xca] at hR
    refine lv_goto (tgt := 18) hx hb d_LW_battery_7 (by decide) ?_
    refine lv_iconst (v := 0) hx hb d_LW_battery_18 (by decide) ?_
    subst hR
    refine W.widen (k := 3) (n := 18) (by decide) (by decide) ?_; exact xs_i hx hb hr hlocks hX hS d_LW_battery_19
  · rw [hM] at hR
    dsimp only [xca] at hR
    have hX : XWs D dA s0 σ H := xw_kept hX he.2
    have hm := e_LC_battery E hM
    refine xt_wid (k := 3) (n := 18) (by decide) (by decide) ?_
    simp only [List.mem_cons, List.not_mem_nil, or_false] at hm
    rcases hm with rfl | rfl
    · rw [if_pos rfl] at hR
      refine x_catch (E := "java/lang/IllegalArgumentException") hown [] e1 [e2] htab (fun z hz => by cases hz) he1 (by decide) (by decide) (hts _ w_164) (xs_c h0 hW0 m_176) hE ?_
      refine lv_astore (lv' := [(4, .ref x), (0, .ref (xB s0 + XA 0 0)), (1, .int v), (2, .int it), (3, .int d)]) hx hb d_LW_battery_10 hl (by decide) rfl (fun ls hl => ?_)
      refine lv_iconst (v := 1) hx hb d_LW_battery_12 (by decide) ?_
      subst hR
      exact xs_i hx hb hr hlocks hX hS d_LW_battery_13
    · rw [if_neg (by decide)] at hR
      refine x_catch (E := "java/lang/IndexOutOfBoundsException") hown [e1] e2 [] htab (fun z hz => by
        simp only [List.mem_cons, List.not_mem_nil, or_false] at hz
        rcases hz with rfl
        · exact ⟨by rw [(xEx_inv he1).2.2.2]; decide, "java/lang/IllegalArgumentException", by rw [(xEx_inv he1).2.2.2]; exact hts _ w_164, xs_Nc h0 hW0 nc_IOB_IAE⟩) he2 (by decide) (by decide) (hts _ w_165) (xs_c h0 hW0 m_249) hE ?_
      refine lv_astore (lv' := [(4, .ref x), (0, .ref (xB s0 + XA 0 0)), (1, .int v), (2, .int it), (3, .int d)]) hx hb d_LW_battery_14 hl (by decide) rfl (fun ls hl => ?_)
      refine lv_iconst (v := 2) hx hb d_LW_battery_16 (by decide) ?_
      subst hR
      exact xs_i hx hb hr hlocks hX hS d_LW_battery_17

abbrev rm_LW_seal : Room := { frames := 8, cells := 3, slots := 18, locals := 128 }
def S_LW_seal (σ : XS) (v : Int32) (cup : Int32) (b : Int32) : Int32 × XS := xca (S_LC_seal σ v cup b) (fun v => (0, v.2)) (fun E => ((if E = "java/lang/IllegalArgumentException" then 1 else 2), σ))
set_option maxHeartbeats 8000000 in
set_option maxRecDepth 100000 in
theorem c_LW_seal {l : Launch} {s0 : State} {A0 : Array Value} {D : va_G} {dA : Nat → ClassId} (h0 : XS0 l s0 A0 D dA) (σ : XS) (v : Int32) (cup : Int32) (b : Int32) (hok : XOk σ) : XMet l y_LW_seal [cw_LW_seal] rm_LW_seal (XP D dA s0 σ [.ref (xB s0 + XA 0 0), .int v, .int cup, .int b]) (XQs D dA s0 xv_i (.inl (S_LW_seal σ v cup b))) 3 18 (xAm s0) := by
  refine XMet.ofWW (cc := b_LW_seal) (maxL := 5) (ret := some .int) (hh := [(0, 7, 10, 13), (0, 7, 14, 26)]) (by decide) rfl ?_
  intro p e s m args below meth c s₁ Bd hml ht hvA
  obtain ⟨rfl, hX, hO⟩ := hvA
  have hx := Bd.exec
  have hb := Bd.bytes
  have hr := Bd.returns
  have hown : s.vm.findClass "LoadChecksLaw" = some m.cls := findClass_of_methodNamed Bd.named
  have hlocks := Bd.notSynchronized
  have hW0 := hO.1
  have hts := xs_w (args := ([.ref (xB s0 + XA 0 0), .int v, .int cup, .int b] : List Value).toArray) h0 hW0
  have hK := xs_K h0 hW0
  have hS := xo_S0 hO
  obtain ⟨e1, L0, hL0, he1, ht0⟩ := x_tab (f := xEx) ht
  obtain ⟨e2, L1, hL1, he2, ht1⟩ := x_tab (f := xEx) ht0
  have htab : c.exceptionTable.toList = [e1, e2] := by rw [hL0, hL1, List.map_eq_nil_iff.mp ht1]
  have hl := lv_entry ([.ref (xB s0 + XA 0 0), .int v, .int cup, .int b]) (n := 5) (Nat.le_of_ble_eq_true rfl)
  rw [lg_entry_eq]
  generalize (lg_sl ([.ref (xB s0 + XA 0 0), .int v, .int cup, .int b]) ++ List.replicate (5 - (lg_sl ([.ref (xB s0 + XA 0 0), .int v, .int cup, .int b])).length) Slot.unset).toArray = ls at hl ⊢
  have hl : lv_has ls 5 [(0, .ref (xB s0 + XA 0 0)), (1, .int v), (2, .int cup), (3, .int b)] := hl
  generalize hR : S_LW_seal σ v cup b = res
  unfold S_LW_seal at hR
  refine lv_aload_n hx hb d_LW_seal_0 rfl (lv_at hl 0 rfl) ?_
  refine lv_iload_n hx hb d_LW_seal_1 rfl (lv_at hl 1 rfl) ?_
  refine lv_iload_n hx hb d_LW_seal_2 rfl (lv_at hl 2 rfl) ?_
  refine lv_iload_n hx hb d_LW_seal_3 rfl (lv_at hl 3 rfl) ?_
  obtain ⟨cB, hcB, hoB, hkB⟩ := xw_recv (r := 0) (i := 0) hK hX (by decide) rfl rfl
  refine xc_s (rest := []) (x_invV (argsL := [.int v, .int cup, .int b]) hx hb hown (hts _ w_461) (hts _ w_462) (hts _ w_463) (x_code (hts _ w_464)) ⟨by decide, by decide⟩ hcB hoB hkB rfl rfl rfl d_LW_seal_4) (c_LC_seal h0 σ v cup b hok) (xs_cw h0 hW0 m_464) (hts _ w_34) ⟨rfl, rfl, Nat.le_of_ble_eq_true rfl, Nat.le_of_ble_eq_true rfl⟩ (hl.1.trans hml.symm) (by rw [hb]; exact d_LW_seal_4) (Nat.le_of_ble_eq_true rfl) ⟨Nat.le_of_ble_eq_true rfl, Nat.le_of_ble_eq_true rfl⟩ hX hW0 hS (fun v σ1 H locs hM hX hS => ?_) (fun E x H locs hM hE he hS => ?_)
  · rw [hM] at hR
    dsimp only [xca] at hR
    refine lv_goto (tgt := 18) hx hb d_LW_seal_7 (by decide) ?_
    refine lv_iconst (v := 0) hx hb d_LW_seal_18 (by decide) ?_
    subst hR
    refine W.widen (k := 3) (n := 18) (by decide) (by decide) ?_; exact xs_i hx hb hr hlocks hX hS d_LW_seal_19
  · rw [hM] at hR
    dsimp only [xca] at hR
    have hX : XWs D dA s0 σ H := xw_kept hX he.2
    have hm := e_LC_seal E hM
    refine xt_wid (k := 3) (n := 18) (by decide) (by decide) ?_
    simp only [List.mem_cons, List.not_mem_nil, or_false] at hm
    rcases hm with rfl | rfl
    · rw [if_pos rfl] at hR
      refine x_catch (E := "java/lang/IllegalArgumentException") hown [] e1 [e2] htab (fun z hz => by cases hz) he1 (by decide) (by decide) (hts _ w_164) (xs_c h0 hW0 m_176) hE ?_
      refine lv_astore (lv' := [(4, .ref x), (0, .ref (xB s0 + XA 0 0)), (1, .int v), (2, .int cup), (3, .int b)]) hx hb d_LW_seal_10 hl (by decide) rfl (fun ls hl => ?_)
      refine lv_iconst (v := 1) hx hb d_LW_seal_12 (by decide) ?_
      subst hR
      exact xs_i hx hb hr hlocks hX hS d_LW_seal_13
    · rw [if_neg (by decide)] at hR
      refine x_catch (E := "java/lang/IllegalStateException") hown [e1] e2 [] htab (fun z hz => by
        simp only [List.mem_cons, List.not_mem_nil, or_false] at hz
        rcases hz with rfl
        · exact ⟨by rw [(xEx_inv he1).2.2.2]; decide, "java/lang/IllegalArgumentException", by rw [(xEx_inv he1).2.2.2]; exact hts _ w_164, xs_Nc h0 hW0 nc_ISE_IAE⟩) he2 (by decide) (by decide) (hts _ w_298) (xs_c h0 hW0 m_316) hE ?_
      refine lv_astore (lv' := [(4, .ref x), (0, .ref (xB s0 + XA 0 0)), (1, .int v), (2, .int cup), (3, .int b)]) hx hb d_LW_seal_14 hl (by decide) rfl (fun ls hl => ?_)
      refine lv_iconst (v := 2) hx hb d_LW_seal_16 (by decide) ?_
      subst hR
      exact xs_i hx hb hr hlocks hX hS d_LW_seal_17

abbrev rm_LW_check : Room := { frames := 8, cells := 1, slots := 6, locals := 125 }
def S_LW_check (σ : XS) (v : Int32) : Int32 × XS := xca (S_LC_check σ v) (fun v => (0, v.2)) (fun E => (1, σ))
set_option maxHeartbeats 8000000 in
set_option maxRecDepth 100000 in
theorem c_LW_check {l : Launch} {s0 : State} {A0 : Array Value} {D : va_G} {dA : Nat → ClassId} (h0 : XS0 l s0 A0 D dA) (σ : XS) (v : Int32) (hok : XOk σ) : XMet l y_LW_check [cw_LW_check] rm_LW_check (XP D dA s0 σ [.ref (xB s0 + XA 0 0), .int v]) (XQs D dA s0 xv_i (.inl (S_LW_check σ v))) 1 6 (xAm s0) := by
  refine XMet.ofWW (cc := b_LW_check) (maxL := 3) (ret := some .int) (hh := [(0, 5, 8, 13)]) (by decide) rfl ?_
  intro p e s m args below meth c s₁ Bd hml ht hvA
  obtain ⟨rfl, hX, hO⟩ := hvA
  have hx := Bd.exec
  have hb := Bd.bytes
  have hr := Bd.returns
  have hown : s.vm.findClass "LoadChecksLaw" = some m.cls := findClass_of_methodNamed Bd.named
  have hlocks := Bd.notSynchronized
  have hW0 := hO.1
  have hts := xs_w (args := ([.ref (xB s0 + XA 0 0), .int v] : List Value).toArray) h0 hW0
  have hK := xs_K h0 hW0
  have hS := xo_S0 hO
  obtain ⟨e1, L0, hL0, he1, ht0⟩ := x_tab (f := xEx) ht
  have htab : c.exceptionTable.toList = [e1] := by rw [hL0, List.map_eq_nil_iff.mp ht0]
  have hl := lv_entry ([.ref (xB s0 + XA 0 0), .int v]) (n := 3) (Nat.le_of_ble_eq_true rfl)
  rw [lg_entry_eq]
  generalize (lg_sl ([.ref (xB s0 + XA 0 0), .int v]) ++ List.replicate (3 - (lg_sl ([.ref (xB s0 + XA 0 0), .int v])).length) Slot.unset).toArray = ls at hl ⊢
  have hl : lv_has ls 3 [(0, .ref (xB s0 + XA 0 0)), (1, .int v)] := hl
  generalize hR : S_LW_check σ v = res
  unfold S_LW_check at hR
  refine lv_aload_n hx hb d_LW_check_0 rfl (lv_at hl 0 rfl) ?_
  refine lv_iload_n hx hb d_LW_check_1 rfl (lv_at hl 1 rfl) ?_
  obtain ⟨cB, hcB, hoB, hkB⟩ := xw_recv (r := 0) (i := 0) hK hX (by decide) rfl rfl
  refine xc_s (rest := []) (x_invV (argsL := [.int v]) hx hb hown (hts _ w_469) (hts _ w_470) (hts _ w_471) (x_code (hts _ w_472)) ⟨by decide, by decide⟩ hcB hoB hkB rfl rfl rfl d_LW_check_2) (c_LC_check h0 σ v hok) (xs_cw h0 hW0 m_472) (hts _ w_34) ⟨rfl, rfl, Nat.le_of_ble_eq_true rfl, Nat.le_of_ble_eq_true rfl⟩ (hl.1.trans hml.symm) (by rw [hb]; exact d_LW_check_2) (Nat.le_of_ble_eq_true rfl) ⟨Nat.le_of_ble_eq_true rfl, Nat.le_of_ble_eq_true rfl⟩ hX hW0 hS (fun v σ1 H locs hM hX hS => ?_) (fun E x H locs hM hE he hS => ?_)
  · rw [hM] at hR
    dsimp only [xca] at hR
    refine lv_goto (tgt := 11) hx hb d_LW_check_5 (by decide) ?_
    refine lv_iconst (v := 0) hx hb d_LW_check_11 (by decide) ?_
    subst hR
    refine W.widen (k := 1) (n := 6) (by decide) (by decide) ?_; exact xs_i hx hb hr hlocks hX hS d_LW_check_12
  · rw [hM] at hR
    dsimp only [xca] at hR
    have hX : XWs D dA s0 σ H := xw_kept hX he.2
    have hm := e_LC_check E hM
    refine xt_wid (k := 1) (n := 6) (by decide) (by decide) ?_
    have hm := List.mem_singleton.mp hm
    subst hm
    refine x_catch (E := "java/lang/IllegalArgumentException") hown [] e1 [] htab (fun z hz => by cases hz) he1 (by decide) (by decide) (hts _ w_164) (xs_c h0 hW0 m_176) hE ?_
    refine lv_astore_n (lv' := [(2, .ref x), (0, .ref (xB s0 + XA 0 0)), (1, .int v)]) hx hb d_LW_check_8 rfl hl (by decide) rfl (fun ls hl => ?_)
    refine lv_iconst (v := 1) hx hb d_LW_check_9 (by decide) ?_
    subst hR
    exact xs_i hx hb hr hlocks hX hS d_LW_check_10

abbrev rm_LW_now : Room := { frames := 8, cells := 2, slots := 12, locals := 127 }
def S_LW_now (σ : XS) (d : Int32) (sh : Int32) : Int32 × XS := xca (S_LC_now σ d sh) (fun v => (0, v.2)) (fun E => (1, σ))
set_option maxHeartbeats 8000000 in
set_option maxRecDepth 100000 in
theorem c_LW_now {l : Launch} {s0 : State} {A0 : Array Value} {D : va_G} {dA : Nat → ClassId} (h0 : XS0 l s0 A0 D dA) (σ : XS) (d : Int32) (sh : Int32) : XMet l y_LW_now [cw_LW_now] rm_LW_now (XP D dA s0 σ [.ref (xB s0 + XA 0 0), .int d, .int sh]) (XQs D dA s0 xv_i (.inl (S_LW_now σ d sh))) 2 12 (xAm s0) := by
  refine XMet.ofWW (cc := b_LW_now) (maxL := 4) (ret := some .int) (hh := [(0, 6, 9, 15)]) (by decide) rfl ?_
  intro p e s m args below meth c s₁ Bd hml ht hvA
  obtain ⟨rfl, hX, hO⟩ := hvA
  have hx := Bd.exec
  have hb := Bd.bytes
  have hr := Bd.returns
  have hown : s.vm.findClass "LoadChecksLaw" = some m.cls := findClass_of_methodNamed Bd.named
  have hlocks := Bd.notSynchronized
  have hW0 := hO.1
  have hts := xs_w (args := ([.ref (xB s0 + XA 0 0), .int d, .int sh] : List Value).toArray) h0 hW0
  have hK := xs_K h0 hW0
  have hS := xo_S0 hO
  obtain ⟨e1, L0, hL0, he1, ht0⟩ := x_tab (f := xEx) ht
  have htab : c.exceptionTable.toList = [e1] := by rw [hL0, List.map_eq_nil_iff.mp ht0]
  have hl := lv_entry ([.ref (xB s0 + XA 0 0), .int d, .int sh]) (n := 4) (Nat.le_of_ble_eq_true rfl)
  rw [lg_entry_eq]
  generalize (lg_sl ([.ref (xB s0 + XA 0 0), .int d, .int sh]) ++ List.replicate (4 - (lg_sl ([.ref (xB s0 + XA 0 0), .int d, .int sh])).length) Slot.unset).toArray = ls at hl ⊢
  have hl : lv_has ls 4 [(0, .ref (xB s0 + XA 0 0)), (1, .int d), (2, .int sh)] := hl
  generalize hR : S_LW_now σ d sh = res
  unfold S_LW_now at hR
  refine lv_aload_n hx hb d_LW_now_0 rfl (lv_at hl 0 rfl) ?_
  refine lv_iload_n hx hb d_LW_now_1 rfl (lv_at hl 1 rfl) ?_
  refine lv_iload_n hx hb d_LW_now_2 rfl (lv_at hl 2 rfl) ?_
  obtain ⟨cB, hcB, hoB, hkB⟩ := xw_recv (r := 0) (i := 0) hK hX (by decide) rfl rfl
  refine xc_s (rest := []) (x_invV (argsL := [.int d, .int sh]) hx hb hown (hts _ w_476) (hts _ w_477) (hts _ w_478) (x_code (hts _ w_479)) ⟨by decide, by decide⟩ hcB hoB hkB rfl rfl rfl d_LW_now_3) (c_LC_now h0 σ d sh) (xs_cw h0 hW0 m_479) (hts _ w_34) ⟨rfl, rfl, Nat.le_of_ble_eq_true rfl, Nat.le_of_ble_eq_true rfl⟩ (hl.1.trans hml.symm) (by rw [hb]; exact d_LW_now_3) (Nat.le_of_ble_eq_true rfl) ⟨Nat.le_of_ble_eq_true rfl, Nat.le_of_ble_eq_true rfl⟩ hX hW0 hS (fun v σ1 H locs hM hX hS => ?_) (fun E x H locs hM hE he hS => ?_)
  · rw [hM] at hR
    dsimp only [xca] at hR
    refine lv_goto (tgt := 12) hx hb d_LW_now_6 (by decide) ?_
    refine lv_iconst (v := 0) hx hb d_LW_now_12 (by decide) ?_
    subst hR
    refine W.widen (k := 2) (n := 12) (by decide) (by decide) ?_; exact xs_i hx hb hr hlocks hX hS d_LW_now_13
  · rw [hM] at hR
    dsimp only [xca] at hR
    have hX : XWs D dA s0 σ H := xw_kept hX he.2
    have hm := e_LC_now E hM
    refine xt_wid (k := 2) (n := 12) (by decide) (by decide) ?_
    have hm := List.mem_singleton.mp hm
    subst hm
    refine x_catch (E := "java/lang/IndexOutOfBoundsException") hown [] e1 [] htab (fun z hz => by cases hz) he1 (by decide) (by decide) (hts _ w_165) (xs_c h0 hW0 m_249) hE ?_
    refine lv_astore_n (lv' := [(3, .ref x), (0, .ref (xB s0 + XA 0 0)), (1, .int d), (2, .int sh)]) hx hb d_LW_now_9 rfl hl (by decide) rfl (fun ls hl => ?_)
    refine lv_iconst (v := 1) hx hb d_LW_now_10 (by decide) ?_
    subst hR
    exact xs_i hx hb hr hlocks hX hS d_LW_now_11

abbrev rm_LW_ready : Room := { frames := 8, cells := 1, slots := 6, locals := 126 }
def S_LW_ready (σ : XS) (v : Int32) : Int32 × XS := xca (S_LC_ready σ v) (fun v => (0, xuL σ 31 0 0 (v).toInt64)) (fun E => (1, σ))
set_option maxHeartbeats 8000000 in
set_option maxRecDepth 100000 in
theorem c_LW_ready {l : Launch} {s0 : State} {A0 : Array Value} {D : va_G} {dA : Nat → ClassId} (h0 : XS0 l s0 A0 D dA) (σ : XS) (v : Int32) (hok : XOk σ) : XMet l y_LW_ready [cw_LW_ready] rm_LW_ready (XP D dA s0 σ [.ref (xB s0 + XA 0 0), .int v, .ref (xB s0 + XA 31 0)]) (XQs D dA s0 xv_i (.inl (S_LW_ready σ v))) 1 6 (xAm s0) := by
  refine XMet.ofWW (cc := b_LW_ready) (maxL := 4) (ret := some .int) (hh := [(0, 9, 12, 13)]) (by decide) rfl ?_
  intro p e s m args below meth c s₁ Bd hml ht hvA
  obtain ⟨rfl, hX, hO⟩ := hvA
  have hx := Bd.exec
  have hb := Bd.bytes
  have hr := Bd.returns
  have hown : s.vm.findClass "LoadChecksLaw" = some m.cls := findClass_of_methodNamed Bd.named
  have hlocks := Bd.notSynchronized
  have hW0 := hO.1
  have hts := xs_w (args := ([.ref (xB s0 + XA 0 0), .int v, .ref (xB s0 + XA 31 0)] : List Value).toArray) h0 hW0
  have hK := xs_K h0 hW0
  have hS := xo_S0 hO
  obtain ⟨e1, L0, hL0, he1, ht0⟩ := x_tab (f := xEx) ht
  have htab : c.exceptionTable.toList = [e1] := by rw [hL0, List.map_eq_nil_iff.mp ht0]
  have hl := lv_entry ([.ref (xB s0 + XA 0 0), .int v, .ref (xB s0 + XA 31 0)]) (n := 4) (Nat.le_of_ble_eq_true rfl)
  rw [lg_entry_eq]
  generalize (lg_sl ([.ref (xB s0 + XA 0 0), .int v, .ref (xB s0 + XA 31 0)]) ++ List.replicate (4 - (lg_sl ([.ref (xB s0 + XA 0 0), .int v, .ref (xB s0 + XA 31 0)])).length) Slot.unset).toArray = ls at hl ⊢
  have hl : lv_has ls 4 [(0, .ref (xB s0 + XA 0 0)), (1, .int v), (2, .ref (xB s0 + XA 31 0))] := hl
  generalize hR : S_LW_ready σ v = res
  unfold S_LW_ready at hR
  refine lv_aload_n hx hb d_LW_ready_0 rfl (lv_at hl 2 rfl) ?_
  refine lv_iconst (v := 0) hx hb d_LW_ready_1 (by decide) ?_
  refine lv_aload_n hx hb d_LW_ready_2 rfl (lv_at hl 0 rfl) ?_
  refine lv_iload_n hx hb d_LW_ready_3 rfl (lv_at hl 1 rfl) ?_
  obtain ⟨cB, hcB, hoB, hkB⟩ := xw_recv (r := 0) (i := 0) hK hX (by decide) rfl rfl
  refine xc_p (rest := [.int 0, .ref (xB s0 + XA 31 0)]) (x_invV (argsL := [.int v]) hx hb hown (hts _ w_483) (hts _ w_484) (hts _ w_485) (x_code (hts _ w_486)) ⟨by decide, by decide⟩ hcB hoB hkB rfl rfl rfl d_LW_ready_4) (c_LC_ready h0 σ v hok) (xs_cw h0 hW0 m_486) (hts _ w_34) ⟨rfl, rfl, Nat.le_of_ble_eq_true rfl, Nat.le_of_ble_eq_true rfl⟩ (hl.1.trans hml.symm) (by rw [hb]; exact d_LW_ready_4) (Nat.le_of_ble_eq_true rfl) ⟨Nat.le_of_ble_eq_true rfl, Nat.le_of_ble_eq_true rfl⟩ hX ⟨hW0, xo_S hS⟩ (fun v hM => ?_) (fun E x H hM hE he => ?_)
  · rw [hM] at hR
    dsimp only [xca] at hR
    refine lv_i2l hx hb d_LW_ready_7 rfl ?_
    refine xw_last (r := 31) (i := 0) (ent' := XE dA (xB s0) (xuL σ 31 0 0 (v).toInt64)) hx hb hK xInj hX hS (xA_in _ _ _) (by decide) 2 rfl rfl (j := 0) (pk_in 0 1 (by decide)) ((xe_uL dA (xB s0) σ 31 0 0 (v).toInt64).trans rfl) (xe_oL dA (xB s0) σ 31 0 0 (v).toInt64) d_LW_ready_8 (fun H locs hX hS => ?_)
    refine lv_goto (tgt := 15) hx hb d_LW_ready_9 (by decide) ?_
    refine lv_iconst (v := 0) hx hb d_LW_ready_15 (by decide) ?_
    subst hR
    refine W.widen (k := 1) (n := 6) (by decide) (by decide) ?_; exact xs_i hx hb hr hlocks hX hS d_LW_ready_16
  · rw [hM] at hR
    dsimp only [xca] at hR
    have hS := hS.grow he.1 he.2
    have hX : XWs D dA s0 σ H := xw_kept hX he.2
    have hm := e_LC_ready E hM
    refine xt_wid (k := 1) (n := 6) (by decide) (by decide) ?_
    have hm := List.mem_singleton.mp hm
    subst hm
    refine x_catch (E := "java/lang/IllegalArgumentException") hown [] e1 [] htab (fun z hz => by cases hz) he1 (by decide) (by decide) (hts _ w_164) (xs_c h0 hW0 m_176) hE ?_
    refine lv_astore_n (lv' := [(3, .ref x), (0, .ref (xB s0 + XA 0 0)), (1, .int v), (2, .ref (xB s0 + XA 31 0))]) hx hb d_LW_ready_12 rfl hl (by decide) rfl (fun ls hl => ?_)
    refine lv_iconst (v := 1) hx hb d_LW_ready_13 (by decide) ?_
    subst hR
    exact xs_i hx hb hr hlocks hX hS d_LW_ready_14

abbrev rm_LW_missing : Room := { frames := 8, cells := 2, slots := 12, locals := 128 }
def S_LW_missing (σ : XS) (v : Int32) (q : Int32) : Int32 × XS := xca (S_LC_missing σ v q) (fun v => (0, xuL σ 31 0 0 (v).toInt64)) (fun E => ((if E = "java/lang/IllegalArgumentException" then 1 else 2), σ))
set_option maxHeartbeats 8000000 in
set_option maxRecDepth 100000 in
theorem c_LW_missing {l : Launch} {s0 : State} {A0 : Array Value} {D : va_G} {dA : Nat → ClassId} (h0 : XS0 l s0 A0 D dA) (σ : XS) (v : Int32) (q : Int32) (hok : XOk σ) : XMet l y_LW_missing [cw_LW_missing] rm_LW_missing (XP D dA s0 σ [.ref (xB s0 + XA 0 0), .int v, .int q, .ref (xB s0 + XA 31 0)]) (XQs D dA s0 xv_i (.inl (S_LW_missing σ v q))) 2 12 (xAm s0) := by
  refine XMet.ofWW (cc := b_LW_missing) (maxL := 5) (ret := some .int) (hh := [(0, 10, 13, 13), (0, 10, 17, 15)]) (by decide) rfl ?_
  intro p e s m args below meth c s₁ Bd hml ht hvA
  obtain ⟨rfl, hX, hO⟩ := hvA
  have hx := Bd.exec
  have hb := Bd.bytes
  have hr := Bd.returns
  have hown : s.vm.findClass "LoadChecksLaw" = some m.cls := findClass_of_methodNamed Bd.named
  have hlocks := Bd.notSynchronized
  have hW0 := hO.1
  have hts := xs_w (args := ([.ref (xB s0 + XA 0 0), .int v, .int q, .ref (xB s0 + XA 31 0)] : List Value).toArray) h0 hW0
  have hK := xs_K h0 hW0
  have hS := xo_S0 hO
  obtain ⟨e1, L0, hL0, he1, ht0⟩ := x_tab (f := xEx) ht
  obtain ⟨e2, L1, hL1, he2, ht1⟩ := x_tab (f := xEx) ht0
  have htab : c.exceptionTable.toList = [e1, e2] := by rw [hL0, hL1, List.map_eq_nil_iff.mp ht1]
  have hl := lv_entry ([.ref (xB s0 + XA 0 0), .int v, .int q, .ref (xB s0 + XA 31 0)]) (n := 5) (Nat.le_of_ble_eq_true rfl)
  rw [lg_entry_eq]
  generalize (lg_sl ([.ref (xB s0 + XA 0 0), .int v, .int q, .ref (xB s0 + XA 31 0)]) ++ List.replicate (5 - (lg_sl ([.ref (xB s0 + XA 0 0), .int v, .int q, .ref (xB s0 + XA 31 0)])).length) Slot.unset).toArray = ls at hl ⊢
  have hl : lv_has ls 5 [(0, .ref (xB s0 + XA 0 0)), (1, .int v), (2, .int q), (3, .ref (xB s0 + XA 31 0))] := hl
  generalize hR : S_LW_missing σ v q = res
  unfold S_LW_missing at hR
  refine lv_aload_n hx hb d_LW_missing_0 rfl (lv_at hl 3 rfl) ?_
  refine lv_iconst (v := 0) hx hb d_LW_missing_1 (by decide) ?_
  refine lv_aload_n hx hb d_LW_missing_2 rfl (lv_at hl 0 rfl) ?_
  refine lv_iload_n hx hb d_LW_missing_3 rfl (lv_at hl 1 rfl) ?_
  refine lv_iload_n hx hb d_LW_missing_4 rfl (lv_at hl 2 rfl) ?_
  obtain ⟨cB, hcB, hoB, hkB⟩ := xw_recv (r := 0) (i := 0) hK hX (by decide) rfl rfl
  refine xc_p (rest := [.int 0, .ref (xB s0 + XA 31 0)]) (x_invV (argsL := [.int v, .int q]) hx hb hown (hts _ w_511) (hts _ w_512) (hts _ w_513) (x_code (hts _ w_514)) ⟨by decide, by decide⟩ hcB hoB hkB rfl rfl rfl d_LW_missing_5) (c_LC_missing h0 σ v q hok) (xs_cw h0 hW0 m_514) (hts _ w_34) ⟨rfl, rfl, Nat.le_of_ble_eq_true rfl, Nat.le_of_ble_eq_true rfl⟩ (hl.1.trans hml.symm) (by rw [hb]; exact d_LW_missing_5) (Nat.le_of_ble_eq_true rfl) ⟨Nat.le_of_ble_eq_true rfl, Nat.le_of_ble_eq_true rfl⟩ hX ⟨hW0, xo_S hS⟩ (fun v hM => ?_) (fun E x H hM hE he => ?_)
  · rw [hM] at hR
    dsimp only [xca] at hR
    refine lv_i2l hx hb d_LW_missing_8 rfl ?_
    refine xw_last (r := 31) (i := 0) (ent' := XE dA (xB s0) (xuL σ 31 0 0 (v).toInt64)) hx hb hK xInj hX hS (xA_in _ _ _) (by decide) 2 rfl rfl (j := 0) (pk_in 0 1 (by decide)) ((xe_uL dA (xB s0) σ 31 0 0 (v).toInt64).trans rfl) (xe_oL dA (xB s0) σ 31 0 0 (v).toInt64) d_LW_missing_9 (fun H locs hX hS => ?_)
    refine lv_goto (tgt := 21) hx hb d_LW_missing_10 (by decide) ?_
    refine lv_iconst (v := 0) hx hb d_LW_missing_21 (by decide) ?_
    subst hR
    refine W.widen (k := 2) (n := 12) (by decide) (by decide) ?_; exact xs_i hx hb hr hlocks hX hS d_LW_missing_22
  · rw [hM] at hR
    dsimp only [xca] at hR
    have hS := hS.grow he.1 he.2
    have hX : XWs D dA s0 σ H := xw_kept hX he.2
    have hm := e_LC_missing E hM
    refine xt_wid (k := 2) (n := 12) (by decide) (by decide) ?_
    simp only [List.mem_cons, List.not_mem_nil, or_false] at hm
    rcases hm with rfl | rfl
    · rw [if_pos rfl] at hR
      refine x_catch (E := "java/lang/IllegalArgumentException") hown [] e1 [e2] htab (fun z hz => by cases hz) he1 (by decide) (by decide) (hts _ w_164) (xs_c h0 hW0 m_176) hE ?_
      refine lv_astore (lv' := [(4, .ref x), (0, .ref (xB s0 + XA 0 0)), (1, .int v), (2, .int q), (3, .ref (xB s0 + XA 31 0))]) hx hb d_LW_missing_13 hl (by decide) rfl (fun ls hl => ?_)
      refine lv_iconst (v := 1) hx hb d_LW_missing_15 (by decide) ?_
      subst hR
      exact xs_i hx hb hr hlocks hX hS d_LW_missing_16
    · rw [if_neg (by decide)] at hR
      refine x_catch (E := "java/lang/IndexOutOfBoundsException") hown [e1] e2 [] htab (fun z hz => by
        simp only [List.mem_cons, List.not_mem_nil, or_false] at hz
        rcases hz with rfl
        · exact ⟨by rw [(xEx_inv he1).2.2.2]; decide, "java/lang/IllegalArgumentException", by rw [(xEx_inv he1).2.2.2]; exact hts _ w_164, xs_Nc h0 hW0 nc_IOB_IAE⟩) he2 (by decide) (by decide) (hts _ w_165) (xs_c h0 hW0 m_249) hE ?_
      refine lv_astore (lv' := [(4, .ref x), (0, .ref (xB s0 + XA 0 0)), (1, .int v), (2, .int q), (3, .ref (xB s0 + XA 31 0))]) hx hb d_LW_missing_17 hl (by decide) rfl (fun ls hl => ?_)
      refine lv_iconst (v := 2) hx hb d_LW_missing_19 (by decide) ?_
      subst hR
      exact xs_i hx hb hr hlocks hX hS d_LW_missing_20

abbrev rm_LW_share : Room := { frames := 8, cells := 2, slots := 12, locals := 129 }
def S_LW_share (σ : XS) (v : Int32) : Int32 × XS := xca (S_LC_share σ v) (fun v => (0, xuL σ 31 0 0 (v).toInt64)) (fun E => ((if E = "java/lang/IllegalArgumentException" then 1 else 2), σ))
set_option maxHeartbeats 8000000 in
set_option maxRecDepth 100000 in
theorem c_LW_share {l : Launch} {s0 : State} {A0 : Array Value} {D : va_G} {dA : Nat → ClassId} (h0 : XS0 l s0 A0 D dA) (σ : XS) (v : Int32) (hok : XOk σ) : XMet l y_LW_share [cw_LW_share] rm_LW_share (XP D dA s0 σ [.ref (xB s0 + XA 0 0), .int v, .ref (xB s0 + XA 31 0)]) (XQs D dA s0 xv_i (.inl (S_LW_share σ v))) 2 12 (xAm s0) := by
  refine XMet.ofWW (cc := b_LW_share) (maxL := 4) (ret := some .int) (hh := [(0, 9, 12, 13), (0, 9, 15, 80)]) (by decide) rfl ?_
  intro p e s m args below meth c s₁ Bd hml ht hvA
  obtain ⟨rfl, hX, hO⟩ := hvA
  have hx := Bd.exec
  have hb := Bd.bytes
  have hr := Bd.returns
  have hown : s.vm.findClass "LoadChecksLaw" = some m.cls := findClass_of_methodNamed Bd.named
  have hlocks := Bd.notSynchronized
  have hW0 := hO.1
  have hts := xs_w (args := ([.ref (xB s0 + XA 0 0), .int v, .ref (xB s0 + XA 31 0)] : List Value).toArray) h0 hW0
  have hK := xs_K h0 hW0
  have hS := xo_S0 hO
  obtain ⟨e1, L0, hL0, he1, ht0⟩ := x_tab (f := xEx) ht
  obtain ⟨e2, L1, hL1, he2, ht1⟩ := x_tab (f := xEx) ht0
  have htab : c.exceptionTable.toList = [e1, e2] := by rw [hL0, hL1, List.map_eq_nil_iff.mp ht1]
  have hl := lv_entry ([.ref (xB s0 + XA 0 0), .int v, .ref (xB s0 + XA 31 0)]) (n := 4) (Nat.le_of_ble_eq_true rfl)
  rw [lg_entry_eq]
  generalize (lg_sl ([.ref (xB s0 + XA 0 0), .int v, .ref (xB s0 + XA 31 0)]) ++ List.replicate (4 - (lg_sl ([.ref (xB s0 + XA 0 0), .int v, .ref (xB s0 + XA 31 0)])).length) Slot.unset).toArray = ls at hl ⊢
  have hl : lv_has ls 4 [(0, .ref (xB s0 + XA 0 0)), (1, .int v), (2, .ref (xB s0 + XA 31 0))] := hl
  generalize hR : S_LW_share σ v = res
  unfold S_LW_share at hR
  refine lv_aload_n hx hb d_LW_share_0 rfl (lv_at hl 2 rfl) ?_
  refine lv_iconst (v := 0) hx hb d_LW_share_1 (by decide) ?_
  refine lv_aload_n hx hb d_LW_share_2 rfl (lv_at hl 0 rfl) ?_
  refine lv_iload_n hx hb d_LW_share_3 rfl (lv_at hl 1 rfl) ?_
  obtain ⟨cB, hcB, hoB, hkB⟩ := xw_recv (r := 0) (i := 0) hK hX (by decide) rfl rfl
  refine xc_p (rest := [.int 0, .ref (xB s0 + XA 31 0)]) (x_invV (argsL := [.int v]) hx hb hown (hts _ w_520) (hts _ w_521) (hts _ w_522) (x_code (hts _ w_523)) ⟨by decide, by decide⟩ hcB hoB hkB rfl rfl rfl d_LW_share_4) (c_LC_share h0 σ v hok) (xs_cw h0 hW0 m_523) (hts _ w_34) ⟨rfl, rfl, Nat.le_of_ble_eq_true rfl, Nat.le_of_ble_eq_true rfl⟩ (hl.1.trans hml.symm) (by rw [hb]; exact d_LW_share_4) (Nat.le_of_ble_eq_true rfl) ⟨Nat.le_of_ble_eq_true rfl, Nat.le_of_ble_eq_true rfl⟩ hX ⟨hW0, xo_S hS⟩ (fun v hM => ?_) (fun E x H hM hE he => ?_)
  · rw [hM] at hR
    dsimp only [xca] at hR
    refine lv_i2l hx hb d_LW_share_7 rfl ?_
    refine xw_last (r := 31) (i := 0) (ent' := XE dA (xB s0) (xuL σ 31 0 0 (v).toInt64)) hx hb hK xInj hX hS (xA_in _ _ _) (by decide) 2 rfl rfl (j := 0) (pk_in 0 1 (by decide)) ((xe_uL dA (xB s0) σ 31 0 0 (v).toInt64).trans rfl) (xe_oL dA (xB s0) σ 31 0 0 (v).toInt64) d_LW_share_8 (fun H locs hX hS => ?_)
    refine lv_goto (tgt := 18) hx hb d_LW_share_9 (by decide) ?_
    refine lv_iconst (v := 0) hx hb d_LW_share_18 (by decide) ?_
    subst hR
    refine W.widen (k := 2) (n := 12) (by decide) (by decide) ?_; exact xs_i hx hb hr hlocks hX hS d_LW_share_19
  · rw [hM] at hR
    dsimp only [xca] at hR
    have hS := hS.grow he.1 he.2
    have hX : XWs D dA s0 σ H := xw_kept hX he.2
    have hm := e_LC_share E hM
    refine xt_wid (k := 2) (n := 12) (by decide) (by decide) ?_
    simp only [List.mem_cons, List.not_mem_nil, or_false] at hm
    rcases hm with rfl | rfl
    · rw [if_pos rfl] at hR
      refine x_catch (E := "java/lang/IllegalArgumentException") hown [] e1 [e2] htab (fun z hz => by cases hz) he1 (by decide) (by decide) (hts _ w_164) (xs_c h0 hW0 m_176) hE ?_
      refine lv_astore_n (lv' := [(3, .ref x), (0, .ref (xB s0 + XA 0 0)), (1, .int v), (2, .ref (xB s0 + XA 31 0))]) hx hb d_LW_share_12 rfl hl (by decide) rfl (fun ls hl => ?_)
      refine lv_iconst (v := 1) hx hb d_LW_share_13 (by decide) ?_
      subst hR
      exact xs_i hx hb hr hlocks hX hS d_LW_share_14
    · rw [if_neg (by decide)] at hR
      refine x_catch (E := "java/lang/ArithmeticException") hown [e1] e2 [] htab (fun z hz => by
        simp only [List.mem_cons, List.not_mem_nil, or_false] at hz
        rcases hz with rfl
        · exact ⟨by rw [(xEx_inv he1).2.2.2]; decide, "java/lang/IllegalArgumentException", by rw [(xEx_inv he1).2.2.2]; exact hts _ w_164, xs_Nc h0 hW0 nc_ARE_IAE⟩) he2 (by decide) (by decide) (hts _ w_519) (xs_c h0 hW0 m_526) hE ?_
      refine lv_astore_n (lv' := [(3, .ref x), (0, .ref (xB s0 + XA 0 0)), (1, .int v), (2, .ref (xB s0 + XA 31 0))]) hx hb d_LW_share_15 rfl hl (by decide) rfl (fun ls hl => ?_)
      refine lv_iconst (v := 2) hx hb d_LW_share_16 (by decide) ?_
      subst hR
      exact xs_i hx hb hr hlocks hX hS d_LW_share_17

abbrev rm_LW_axle : Room := { frames := 8, cells := 2, slots := 12, locals := 132 }
def S_LW_axle (σ : XS) (v : Int32) (q : Int32) : Int32 × XS := xca (S_LC_axle σ v q) (fun v => (0, xuL σ 31 0 0 v)) (fun E => (1, σ))
set_option maxHeartbeats 8000000 in
set_option maxRecDepth 100000 in
theorem c_LW_axle {l : Launch} {s0 : State} {A0 : Array Value} {D : va_G} {dA : Nat → ClassId} (h0 : XS0 l s0 A0 D dA) (σ : XS) (v : Int32) (q : Int32) (hok : XOk σ) : XMet l y_LW_axle [cw_LW_axle] rm_LW_axle (XP D dA s0 σ [.ref (xB s0 + XA 0 0), .int v, .int q, .ref (xB s0 + XA 31 0)]) (XQs D dA s0 xv_i (.inl (S_LW_axle σ v q))) 2 12 (xAm s0) := by
  refine XMet.ofWW (cc := b_LW_axle) (maxL := 5) (ret := some .int) (hh := [(0, 9, 12, 13)]) (by decide) rfl ?_
  intro p e s m args below meth c s₁ Bd hml ht hvA
  obtain ⟨rfl, hX, hO⟩ := hvA
  have hx := Bd.exec
  have hb := Bd.bytes
  have hr := Bd.returns
  have hown : s.vm.findClass "LoadChecksLaw" = some m.cls := findClass_of_methodNamed Bd.named
  have hlocks := Bd.notSynchronized
  have hW0 := hO.1
  have hts := xs_w (args := ([.ref (xB s0 + XA 0 0), .int v, .int q, .ref (xB s0 + XA 31 0)] : List Value).toArray) h0 hW0
  have hK := xs_K h0 hW0
  have hS := xo_S0 hO
  obtain ⟨e1, L0, hL0, he1, ht0⟩ := x_tab (f := xEx) ht
  have htab : c.exceptionTable.toList = [e1] := by rw [hL0, List.map_eq_nil_iff.mp ht0]
  have hl := lv_entry ([.ref (xB s0 + XA 0 0), .int v, .int q, .ref (xB s0 + XA 31 0)]) (n := 5) (Nat.le_of_ble_eq_true rfl)
  rw [lg_entry_eq]
  generalize (lg_sl ([.ref (xB s0 + XA 0 0), .int v, .int q, .ref (xB s0 + XA 31 0)]) ++ List.replicate (5 - (lg_sl ([.ref (xB s0 + XA 0 0), .int v, .int q, .ref (xB s0 + XA 31 0)])).length) Slot.unset).toArray = ls at hl ⊢
  have hl : lv_has ls 5 [(0, .ref (xB s0 + XA 0 0)), (1, .int v), (2, .int q), (3, .ref (xB s0 + XA 31 0))] := hl
  generalize hR : S_LW_axle σ v q = res
  unfold S_LW_axle at hR
  refine lv_aload_n hx hb d_LW_axle_0 rfl (lv_at hl 3 rfl) ?_
  refine lv_iconst (v := 0) hx hb d_LW_axle_1 (by decide) ?_
  refine lv_aload_n hx hb d_LW_axle_2 rfl (lv_at hl 0 rfl) ?_
  refine lv_iload_n hx hb d_LW_axle_3 rfl (lv_at hl 1 rfl) ?_
  refine lv_iload_n hx hb d_LW_axle_4 rfl (lv_at hl 2 rfl) ?_
  obtain ⟨cB, hcB, hoB, hkB⟩ := xw_recv (r := 0) (i := 0) hK hX (by decide) rfl rfl
  refine xc_p (rest := [.int 0, .ref (xB s0 + XA 31 0)]) (x_invV (argsL := [.int v, .int q]) hx hb hown (hts _ w_543) (hts _ w_544) (hts _ w_545) (x_code (hts _ w_546)) ⟨by decide, by decide⟩ hcB hoB hkB rfl rfl rfl d_LW_axle_5) (c_LC_axle h0 σ v q hok) (xs_cw h0 hW0 m_546) (hts _ w_34) ⟨rfl, rfl, Nat.le_of_ble_eq_true rfl, Nat.le_of_ble_eq_true rfl⟩ (hl.1.trans hml.symm) (by rw [hb]; exact d_LW_axle_5) (Nat.le_of_ble_eq_true rfl) ⟨Nat.le_of_ble_eq_true rfl, Nat.le_of_ble_eq_true rfl⟩ hX ⟨hW0, xo_S hS⟩ (fun v hM => ?_) (fun E x H hM hE he => ?_)
  · rw [hM] at hR
    dsimp only [xca] at hR
    refine xw_last (r := 31) (i := 0) (ent' := XE dA (xB s0) (xuL σ 31 0 0 v)) hx hb hK xInj hX hS (xA_in _ _ _) (by decide) 2 rfl rfl (j := 0) (pk_in 0 1 (by decide)) ((xe_uL dA (xB s0) σ 31 0 0 v).trans rfl) (xe_oL dA (xB s0) σ 31 0 0 v) d_LW_axle_8 (fun H locs hX hS => ?_)
    refine lv_goto (tgt := 16) hx hb d_LW_axle_9 (by decide) ?_
    refine lv_iconst (v := 0) hx hb d_LW_axle_16 (by decide) ?_
    subst hR
    refine W.widen (k := 2) (n := 12) (by decide) (by decide) ?_; exact xs_i hx hb hr hlocks hX hS d_LW_axle_17
  · rw [hM] at hR
    dsimp only [xca] at hR
    have hS := hS.grow he.1 he.2
    have hX : XWs D dA s0 σ H := xw_kept hX he.2
    have hm := e_LC_axle E hM
    refine xt_wid (k := 2) (n := 12) (by decide) (by decide) ?_
    have hm := List.mem_singleton.mp hm
    subst hm
    refine x_catch (E := "java/lang/IllegalArgumentException") hown [] e1 [] htab (fun z hz => by cases hz) he1 (by decide) (by decide) (hts _ w_164) (xs_c h0 hW0 m_176) hE ?_
    refine lv_astore (lv' := [(4, .ref x), (0, .ref (xB s0 + XA 0 0)), (1, .int v), (2, .int q), (3, .ref (xB s0 + XA 31 0))]) hx hb d_LW_axle_12 hl (by decide) rfl (fun ls hl => ?_)
    refine lv_iconst (v := 1) hx hb d_LW_axle_14 (by decide) ?_
    subst hR
    exact xs_i hx hb hr hlocks hX hS d_LW_axle_15

abbrev rm_LW_row : Room := { frames := 7, cells := 1, slots := 6, locals := 104 }
def S_LW_row (σ : XS) (a : Int32) (b : Int32) : Int32 × XS := xca (S_LC_row σ a b) (fun v => (0, xuL σ 31 0 0 (v).toInt64)) (fun E => (1, σ))
set_option maxHeartbeats 8000000 in
set_option maxRecDepth 100000 in
theorem c_LW_row {l : Launch} {s0 : State} {A0 : Array Value} {D : va_G} {dA : Nat → ClassId} (h0 : XS0 l s0 A0 D dA) (σ : XS) (a : Int32) (b : Int32) : XMet l y_LW_row [cw_LW_row] rm_LW_row (XP D dA s0 σ [.ref (xB s0 + XA 0 0), .int a, .int b, .ref (xB s0 + XA 31 0)]) (XQs D dA s0 xv_i (.inl (S_LW_row σ a b))) 1 6 (xAm s0) := by
  refine XMet.ofWW (cc := b_LW_row) (maxL := 5) (ret := some .int) (hh := [(0, 10, 13, 13)]) (by decide) rfl ?_
  intro p e s m args below meth c s₁ Bd hml ht hvA
  obtain ⟨rfl, hX, hO⟩ := hvA
  have hx := Bd.exec
  have hb := Bd.bytes
  have hr := Bd.returns
  have hown : s.vm.findClass "LoadChecksLaw" = some m.cls := findClass_of_methodNamed Bd.named
  have hlocks := Bd.notSynchronized
  have hW0 := hO.1
  have hts := xs_w (args := ([.ref (xB s0 + XA 0 0), .int a, .int b, .ref (xB s0 + XA 31 0)] : List Value).toArray) h0 hW0
  have hK := xs_K h0 hW0
  have hS := xo_S0 hO
  obtain ⟨e1, L0, hL0, he1, ht0⟩ := x_tab (f := xEx) ht
  have htab : c.exceptionTable.toList = [e1] := by rw [hL0, List.map_eq_nil_iff.mp ht0]
  have hl := lv_entry ([.ref (xB s0 + XA 0 0), .int a, .int b, .ref (xB s0 + XA 31 0)]) (n := 5) (Nat.le_of_ble_eq_true rfl)
  rw [lg_entry_eq]
  generalize (lg_sl ([.ref (xB s0 + XA 0 0), .int a, .int b, .ref (xB s0 + XA 31 0)]) ++ List.replicate (5 - (lg_sl ([.ref (xB s0 + XA 0 0), .int a, .int b, .ref (xB s0 + XA 31 0)])).length) Slot.unset).toArray = ls at hl ⊢
  have hl : lv_has ls 5 [(0, .ref (xB s0 + XA 0 0)), (1, .int a), (2, .int b), (3, .ref (xB s0 + XA 31 0))] := hl
  generalize hR : S_LW_row σ a b = res
  unfold S_LW_row at hR
  refine lv_aload_n hx hb d_LW_row_0 rfl (lv_at hl 3 rfl) ?_
  refine lv_iconst (v := 0) hx hb d_LW_row_1 (by decide) ?_
  refine lv_aload_n hx hb d_LW_row_2 rfl (lv_at hl 0 rfl) ?_
  refine lv_iload_n hx hb d_LW_row_3 rfl (lv_at hl 1 rfl) ?_
  refine lv_iload_n hx hb d_LW_row_4 rfl (lv_at hl 2 rfl) ?_
  obtain ⟨cB, hcB, hoB, hkB⟩ := xw_recv (r := 0) (i := 0) hK hX (by decide) rfl rfl
  refine xc_p (rest := [.int 0, .ref (xB s0 + XA 31 0)]) (x_invV (argsL := [.int a, .int b]) hx hb hown (hts _ w_562) (hts _ w_563) (hts _ w_564) (x_code (hts _ w_565)) ⟨by decide, by decide⟩ hcB hoB hkB rfl rfl rfl d_LW_row_5) (c_LC_row h0 σ a b) (xs_cw h0 hW0 m_565) (hts _ w_34) ⟨rfl, rfl, Nat.le_of_ble_eq_true rfl, Nat.le_of_ble_eq_true rfl⟩ (hl.1.trans hml.symm) (by rw [hb]; exact d_LW_row_5) (Nat.le_of_ble_eq_true rfl) ⟨Nat.le_of_ble_eq_true rfl, Nat.le_of_ble_eq_true rfl⟩ hX ⟨hW0, xo_S hS⟩ (fun v hM => ?_) (fun E x H hM hE he => ?_)
  · rw [hM] at hR
    dsimp only [xca] at hR
    refine lv_i2l hx hb d_LW_row_8 rfl ?_
    refine xw_last (r := 31) (i := 0) (ent' := XE dA (xB s0) (xuL σ 31 0 0 (v).toInt64)) hx hb hK xInj hX hS (xA_in _ _ _) (by decide) 2 rfl rfl (j := 0) (pk_in 0 1 (by decide)) ((xe_uL dA (xB s0) σ 31 0 0 (v).toInt64).trans rfl) (xe_oL dA (xB s0) σ 31 0 0 (v).toInt64) d_LW_row_9 (fun H locs hX hS => ?_)
    refine lv_goto (tgt := 17) hx hb d_LW_row_10 (by decide) ?_
    refine lv_iconst (v := 0) hx hb d_LW_row_17 (by decide) ?_
    subst hR
    refine W.widen (k := 1) (n := 6) (by decide) (by decide) ?_; exact xs_i hx hb hr hlocks hX hS d_LW_row_18
  · rw [hM] at hR
    dsimp only [xca] at hR
    have hS := hS.grow he.1 he.2
    have hX : XWs D dA s0 σ H := xw_kept hX he.2
    have hm := e_LC_row E hM
    refine xt_wid (k := 1) (n := 6) (by decide) (by decide) ?_
    have hm := List.mem_singleton.mp hm
    subst hm
    refine x_catch (E := "java/lang/IllegalArgumentException") hown [] e1 [] htab (fun z hz => by cases hz) he1 (by decide) (by decide) (hts _ w_164) (xs_c h0 hW0 m_176) hE ?_
    refine lv_astore (lv' := [(4, .ref x), (0, .ref (xB s0 + XA 0 0)), (1, .int a), (2, .int b), (3, .ref (xB s0 + XA 31 0))]) hx hb d_LW_row_13 hl (by decide) rfl (fun ls hl => ?_)
    refine lv_iconst (v := 1) hx hb d_LW_row_15 (by decide) ?_
    subst hR
    exact xs_i hx hb hr hlocks hX hS d_LW_row_16

abbrev rm_LW_has : Room := { frames := 8, cells := 3, slots := 18, locals := 127 }
def S_LW_has (σ : XS) (v : Int32) (cup : Int32) (it : Int32) : Int32 × XS := xca (S_LC_has σ v cup it) (fun v => (0, xuL σ 31 0 0 (v).toInt64)) (fun E => (1, σ))
set_option maxHeartbeats 8000000 in
set_option maxRecDepth 100000 in
theorem c_LW_has {l : Launch} {s0 : State} {A0 : Array Value} {D : va_G} {dA : Nat → ClassId} (h0 : XS0 l s0 A0 D dA) (σ : XS) (v : Int32) (cup : Int32) (it : Int32) (hok : XOk σ) : XMet l y_LW_has [cw_LW_has] rm_LW_has (XP D dA s0 σ [.ref (xB s0 + XA 0 0), .int v, .int cup, .int it, .ref (xB s0 + XA 31 0)]) (XQs D dA s0 xv_i (.inl (S_LW_has σ v cup it))) 3 18 (xAm s0) := by
  refine XMet.ofWW (cc := b_LW_has) (maxL := 6) (ret := some .int) (hh := [(0, 12, 15, 13)]) (by decide) rfl ?_
  intro p e s m args below meth c s₁ Bd hml ht hvA
  obtain ⟨rfl, hX, hO⟩ := hvA
  have hx := Bd.exec
  have hb := Bd.bytes
  have hr := Bd.returns
  have hown : s.vm.findClass "LoadChecksLaw" = some m.cls := findClass_of_methodNamed Bd.named
  have hlocks := Bd.notSynchronized
  have hW0 := hO.1
  have hts := xs_w (args := ([.ref (xB s0 + XA 0 0), .int v, .int cup, .int it, .ref (xB s0 + XA 31 0)] : List Value).toArray) h0 hW0
  have hK := xs_K h0 hW0
  have hS := xo_S0 hO
  obtain ⟨e1, L0, hL0, he1, ht0⟩ := x_tab (f := xEx) ht
  have htab : c.exceptionTable.toList = [e1] := by rw [hL0, List.map_eq_nil_iff.mp ht0]
  have hl := lv_entry ([.ref (xB s0 + XA 0 0), .int v, .int cup, .int it, .ref (xB s0 + XA 31 0)]) (n := 6) (Nat.le_of_ble_eq_true rfl)
  rw [lg_entry_eq]
  generalize (lg_sl ([.ref (xB s0 + XA 0 0), .int v, .int cup, .int it, .ref (xB s0 + XA 31 0)]) ++ List.replicate (6 - (lg_sl ([.ref (xB s0 + XA 0 0), .int v, .int cup, .int it, .ref (xB s0 + XA 31 0)])).length) Slot.unset).toArray = ls at hl ⊢
  have hl : lv_has ls 6 [(0, .ref (xB s0 + XA 0 0)), (1, .int v), (2, .int cup), (3, .int it), (4, .ref (xB s0 + XA 31 0))] := hl
  generalize hR : S_LW_has σ v cup it = res
  unfold S_LW_has at hR
  refine lv_aload hx hb d_LW_has_0 (lv_at hl 4 rfl) ?_
  refine lv_iconst (v := 0) hx hb d_LW_has_2 (by decide) ?_
  refine lv_aload_n hx hb d_LW_has_3 rfl (lv_at hl 0 rfl) ?_
  refine lv_iload_n hx hb d_LW_has_4 rfl (lv_at hl 1 rfl) ?_
  refine lv_iload_n hx hb d_LW_has_5 rfl (lv_at hl 2 rfl) ?_
  refine lv_iload_n hx hb d_LW_has_6 rfl (lv_at hl 3 rfl) ?_
  obtain ⟨cB, hcB, hoB, hkB⟩ := xw_recv (r := 0) (i := 0) hK hX (by decide) rfl rfl
  refine xc_p (rest := [.int 0, .ref (xB s0 + XA 31 0)]) (x_invV (argsL := [.int v, .int cup, .int it]) hx hb hown (hts _ w_578) (hts _ w_579) (hts _ w_580) (x_code (hts _ w_581)) ⟨by decide, by decide⟩ hcB hoB hkB rfl rfl rfl d_LW_has_7) (c_LC_has h0 σ v cup it hok) (xs_cw h0 hW0 m_581) (hts _ w_34) ⟨rfl, rfl, Nat.le_of_ble_eq_true rfl, Nat.le_of_ble_eq_true rfl⟩ (hl.1.trans hml.symm) (by rw [hb]; exact d_LW_has_7) (Nat.le_of_ble_eq_true rfl) ⟨Nat.le_of_ble_eq_true rfl, Nat.le_of_ble_eq_true rfl⟩ hX ⟨hW0, xo_S hS⟩ (fun v hM => ?_) (fun E x H hM hE he => ?_)
  · rw [hM] at hR
    dsimp only [xca] at hR
    refine lv_i2l hx hb d_LW_has_10 rfl ?_
    refine xw_last (r := 31) (i := 0) (ent' := XE dA (xB s0) (xuL σ 31 0 0 (v).toInt64)) hx hb hK xInj hX hS (xA_in _ _ _) (by decide) 2 rfl rfl (j := 0) (pk_in 0 1 (by decide)) ((xe_uL dA (xB s0) σ 31 0 0 (v).toInt64).trans rfl) (xe_oL dA (xB s0) σ 31 0 0 (v).toInt64) d_LW_has_11 (fun H locs hX hS => ?_)
    refine lv_goto (tgt := 19) hx hb d_LW_has_12 (by decide) ?_
    refine lv_iconst (v := 0) hx hb d_LW_has_19 (by decide) ?_
    subst hR
    refine W.widen (k := 3) (n := 18) (by decide) (by decide) ?_; exact xs_i hx hb hr hlocks hX hS d_LW_has_20
  · rw [hM] at hR
    dsimp only [xca] at hR
    have hS := hS.grow he.1 he.2
    have hX : XWs D dA s0 σ H := xw_kept hX he.2
    have hm := e_LC_has E hM
    refine xt_wid (k := 3) (n := 18) (by decide) (by decide) ?_
    have hm := List.mem_singleton.mp hm
    subst hm
    refine x_catch (E := "java/lang/IllegalArgumentException") hown [] e1 [] htab (fun z hz => by cases hz) he1 (by decide) (by decide) (hts _ w_164) (xs_c h0 hW0 m_176) hE ?_
    refine lv_astore (lv' := [(5, .ref x), (0, .ref (xB s0 + XA 0 0)), (1, .int v), (2, .int cup), (3, .int it), (4, .ref (xB s0 + XA 31 0))]) hx hb d_LW_has_15 hl (by decide) rfl (fun ls hl => ?_)
    refine lv_iconst (v := 1) hx hb d_LW_has_17 (by decide) ?_
    subst hR
    exact xs_i hx hb hr hlocks hX hS d_LW_has_18

abbrev rm_LW_stocked : Room := { frames := 8, cells := 1, slots := 6, locals := 123 }
def S_LW_stocked (σ : XS) (it : Int32) : Int32 × XS := xca (S_LC_stocked σ it) (fun v => (0, xuL σ 31 0 0 (v).toInt64)) (fun E => (1, σ))
set_option maxHeartbeats 8000000 in
set_option maxRecDepth 100000 in
theorem c_LW_stocked {l : Launch} {s0 : State} {A0 : Array Value} {D : va_G} {dA : Nat → ClassId} (h0 : XS0 l s0 A0 D dA) (σ : XS) (it : Int32) : XMet l y_LW_stocked [cw_LW_stocked] rm_LW_stocked (XP D dA s0 σ [.ref (xB s0 + XA 0 0), .int it, .ref (xB s0 + XA 31 0)]) (XQs D dA s0 xv_i (.inl (S_LW_stocked σ it))) 1 6 (xAm s0) := by
  refine XMet.ofWW (cc := b_LW_stocked) (maxL := 4) (ret := some .int) (hh := [(0, 9, 12, 13)]) (by decide) rfl ?_
  intro p e s m args below meth c s₁ Bd hml ht hvA
  obtain ⟨rfl, hX, hO⟩ := hvA
  have hx := Bd.exec
  have hb := Bd.bytes
  have hr := Bd.returns
  have hown : s.vm.findClass "LoadChecksLaw" = some m.cls := findClass_of_methodNamed Bd.named
  have hlocks := Bd.notSynchronized
  have hW0 := hO.1
  have hts := xs_w (args := ([.ref (xB s0 + XA 0 0), .int it, .ref (xB s0 + XA 31 0)] : List Value).toArray) h0 hW0
  have hK := xs_K h0 hW0
  have hS := xo_S0 hO
  obtain ⟨e1, L0, hL0, he1, ht0⟩ := x_tab (f := xEx) ht
  have htab : c.exceptionTable.toList = [e1] := by rw [hL0, List.map_eq_nil_iff.mp ht0]
  have hl := lv_entry ([.ref (xB s0 + XA 0 0), .int it, .ref (xB s0 + XA 31 0)]) (n := 4) (Nat.le_of_ble_eq_true rfl)
  rw [lg_entry_eq]
  generalize (lg_sl ([.ref (xB s0 + XA 0 0), .int it, .ref (xB s0 + XA 31 0)]) ++ List.replicate (4 - (lg_sl ([.ref (xB s0 + XA 0 0), .int it, .ref (xB s0 + XA 31 0)])).length) Slot.unset).toArray = ls at hl ⊢
  have hl : lv_has ls 4 [(0, .ref (xB s0 + XA 0 0)), (1, .int it), (2, .ref (xB s0 + XA 31 0))] := hl
  generalize hR : S_LW_stocked σ it = res
  unfold S_LW_stocked at hR
  refine lv_aload_n hx hb d_LW_stocked_0 rfl (lv_at hl 2 rfl) ?_
  refine lv_iconst (v := 0) hx hb d_LW_stocked_1 (by decide) ?_
  refine lv_aload_n hx hb d_LW_stocked_2 rfl (lv_at hl 0 rfl) ?_
  refine lv_iload_n hx hb d_LW_stocked_3 rfl (lv_at hl 1 rfl) ?_
  obtain ⟨cB, hcB, hoB, hkB⟩ := xw_recv (r := 0) (i := 0) hK hX (by decide) rfl rfl
  refine xc_p (rest := [.int 0, .ref (xB s0 + XA 31 0)]) (x_invV (argsL := [.int it]) hx hb hown (hts _ w_585) (hts _ w_586) (hts _ w_587) (x_code (hts _ w_588)) ⟨by decide, by decide⟩ hcB hoB hkB rfl rfl rfl d_LW_stocked_4) (c_LC_stocked h0 σ it) (xs_cw h0 hW0 m_588) (hts _ w_34) ⟨rfl, rfl, Nat.le_of_ble_eq_true rfl, Nat.le_of_ble_eq_true rfl⟩ (hl.1.trans hml.symm) (by rw [hb]; exact d_LW_stocked_4) (Nat.le_of_ble_eq_true rfl) ⟨Nat.le_of_ble_eq_true rfl, Nat.le_of_ble_eq_true rfl⟩ hX ⟨hW0, xo_S hS⟩ (fun v hM => ?_) (fun E x H hM hE he => ?_)
  · rw [hM] at hR
    dsimp only [xca] at hR
    refine lv_i2l hx hb d_LW_stocked_7 rfl ?_
    refine xw_last (r := 31) (i := 0) (ent' := XE dA (xB s0) (xuL σ 31 0 0 (v).toInt64)) hx hb hK xInj hX hS (xA_in _ _ _) (by decide) 2 rfl rfl (j := 0) (pk_in 0 1 (by decide)) ((xe_uL dA (xB s0) σ 31 0 0 (v).toInt64).trans rfl) (xe_oL dA (xB s0) σ 31 0 0 (v).toInt64) d_LW_stocked_8 (fun H locs hX hS => ?_)
    refine lv_goto (tgt := 15) hx hb d_LW_stocked_9 (by decide) ?_
    refine lv_iconst (v := 0) hx hb d_LW_stocked_15 (by decide) ?_
    subst hR
    refine W.widen (k := 1) (n := 6) (by decide) (by decide) ?_; exact xs_i hx hb hr hlocks hX hS d_LW_stocked_16
  · rw [hM] at hR
    dsimp only [xca] at hR
    have hS := hS.grow he.1 he.2
    have hX : XWs D dA s0 σ H := xw_kept hX he.2
    have hm := e_LC_stocked E hM
    refine xt_wid (k := 1) (n := 6) (by decide) (by decide) ?_
    have hm := List.mem_singleton.mp hm
    subst hm
    refine x_catch (E := "java/lang/IllegalArgumentException") hown [] e1 [] htab (fun z hz => by cases hz) he1 (by decide) (by decide) (hts _ w_164) (xs_c h0 hW0 m_176) hE ?_
    refine lv_astore_n (lv' := [(3, .ref x), (0, .ref (xB s0 + XA 0 0)), (1, .int it), (2, .ref (xB s0 + XA 31 0))]) hx hb d_LW_stocked_12 rfl hl (by decide) rfl (fun ls hl => ?_)
    refine lv_iconst (v := 1) hx hb d_LW_stocked_13 (by decide) ?_
    subst hR
    exact xs_i hx hb hr hlocks hX hS d_LW_stocked_14
