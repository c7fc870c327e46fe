abbrev rm_RW_add : Room := { frames := 0, cells := 0, slots := 0, locals := 0 }
def S_RW_add (σ : XS) (a : Int32) (b : Int32) (n : Int32) : Unit × XS := ((), (xuL (xuI (xuI (xuI σ 8 0 (((σ.2 7 0 1) - (σ.2 7 0 1) / (100 : Int64) * (100 : Int64)).toInt32 * (3 : Int32)).toNatClampNeg a) 8 0 ((((σ.2 7 0 1) - (σ.2 7 0 1) / (100 : Int64) * (100 : Int64)).toInt32 * (3 : Int32)) + (1 : Int32)).toNatClampNeg b) 8 0 ((((σ.2 7 0 1) - (σ.2 7 0 1) / (100 : Int64) * (100 : Int64)).toInt32 * (3 : Int32)) + (2 : Int32)).toNatClampNeg n) 7 0 1 (((xuI (xuI (xuI σ 8 0 (((σ.2 7 0 1) - (σ.2 7 0 1) / (100 : Int64) * (100 : Int64)).toInt32 * (3 : Int32)).toNatClampNeg a) 8 0 ((((σ.2 7 0 1) - (σ.2 7 0 1) / (100 : Int64) * (100 : Int64)).toInt32 * (3 : Int32)) + (1 : Int32)).toNatClampNeg b) 8 0 ((((σ.2 7 0 1) - (σ.2 7 0 1) / (100 : Int64) * (100 : Int64)).toInt32 * (3 : Int32)) + (2 : Int32)).toNatClampNeg n).2 7 0 1) + (1 : Int64))))
set_option maxHeartbeats 4000000 in
set_option maxRecDepth 100000 in
theorem c_RW_add {l : Launch} {s0 : State} {A0 : Array Value} {D : va_G} {dA : Nat → ClassId} (h0 : XS0 l s0 A0 D dA) (σ : XS) (a : Int32) (b : Int32) (n : Int32) (hm : 0 ≤ (σ.2 7 0 1).toInt) : XMet l y_RW_add [cw_RW_add] rm_RW_add (XP D dA s0 σ [.ref (xB s0 + XA 7 0), .int a, .int b, .int n]) (XQs D dA s0 xv_v (.inl (S_RW_add σ a b n))) 0 0 (xAm s0) := by
  refine XMet.ofW (cc := b_RW_add) (maxL := 5) (ret := none) (by decide) rfl ?_
  intro p e s m args below meth c s₁ Bd hml hvA
  obtain ⟨rfl, hX, hO⟩ := hvA
  have hx := Bd.exec
  have hb := Bd.bytes
  have hr := Bd.returns
  have hown : s.vm.findClass "LoadChecks$Rows" = some m.cls := findClass_of_methodNamed Bd.named
  have hlocks := Bd.notSynchronized
  have hnt : c.exceptionTable.isEmpty = true := Bd.noHandlers (atoms_spec (ws := [cw_RW_add]) Bd.pre _ List.mem_cons_self)
  have hW0 := hO.1
  have hts := xs_w (args := ([.ref (xB s0 + XA 7 0), .int a, .int b, .int n] : List Value).toArray) h0 hW0
  have hK := xs_K h0 hW0
  have hS := xo_S0 hO
  have hl := lv_entry ([.ref (xB s0 + XA 7 0), .int a, .int b, .int n]) (n := 5) (Nat.le_of_ble_eq_true rfl)
  rw [lg_entry_eq]
  generalize (lg_sl ([.ref (xB s0 + XA 7 0), .int a, .int b, .int n]) ++ List.replicate (5 - (lg_sl ([.ref (xB s0 + XA 7 0), .int a, .int b, .int n])).length) Slot.unset).toArray = ls at hl ⊢
  have hl : lv_has ls 5 [(0, .ref (xB s0 + XA 7 0)), (1, .int a), (2, .int b), (3, .int n)] := hl
  generalize hR : S_RW_add σ a b n = res
  unfold S_RW_add at hR
  refine lv_aload_n hx hb d_RW_add_0 rfl (lv_at hl 0 rfl) ?_
  refine xw_get (C := R_RW) (T := F_RW) (N := 2) (r := 7) (i := 0) hx hb hts hi_RW hown hK hX (by decide) rfl rfl 1 (by decide) (hts _ w_67) rfl rfl d_RW_add_1 ?_
  refine lv_ldc2 (v := 100) hx hb hown (hts _ w_443) d_RW_add_4 ?_
  refine lv_lrem hx hb d_RW_add_7 (by decide) ?_
  refine lv_l2i hx hb d_RW_add_8 rfl ?_
  refine lv_iconst (v := 3) hx hb d_RW_add_9 (by decide) ?_
  refine lv_imul hx hb d_RW_add_10 ?_
  refine lv_istore (lv' := [(4, .int (((σ.2 7 0 1) - (σ.2 7 0 1) / (100 : Int64) * (100 : Int64)).toInt32 * (3 : Int32))), (0, .ref (xB s0 + XA 7 0)), (1, .int a), (2, .int b), (3, .int n)]) hx hb d_RW_add_11 hl (by decide) rfl (fun ls hl => ?_)
  refine lv_aload_n hx hb d_RW_add_13 rfl (lv_at hl 1 rfl) ?_
  refine xw_get (C := R_RW) (T := F_RW) (N := 2) (r := 7) (i := 0) hx hb hts hi_RW hown hK hX (by decide) rfl rfl 0 (by decide) (hts _ w_66) rfl rfl d_RW_add_14 ?_
  refine lv_iload hx hb d_RW_add_17 (lv_at hl 0 rfl) ?_
  refine lv_iload_n hx hb d_RW_add_19 rfl (lv_at hl 2 rfl) ?_
  refine xw_iast (r := 8) (i := 0) (ent' := XE dA (xB s0) (xuI σ 8 0 (((σ.2 7 0 1) - (σ.2 7 0 1) / (100 : Int64) * (100 : Int64)).toInt32 * (3 : Int32)).toNatClampNeg a)) hx hb hK xInj hX hS (xA_in _ _ _) (by decide) 0 rfl rfl (j := (((σ.2 7 0 1) - (σ.2 7 0 1) / (100 : Int64) * (100 : Int64)).toInt32 * (3 : Int32))) (o_row0 hm) ((xe_uI dA (xB s0) σ 8 0 (((σ.2 7 0 1) - (σ.2 7 0 1) / (100 : Int64) * (100 : Int64)).toInt32 * (3 : Int32)).toNatClampNeg a).trans rfl) (xe_oI dA (xB s0) σ 8 0 (((σ.2 7 0 1) - (σ.2 7 0 1) / (100 : Int64) * (100 : Int64)).toInt32 * (3 : Int32)).toNatClampNeg a) d_RW_add_20 (fun H locs hX hS => ?_)
  refine lv_aload_n hx hb d_RW_add_21 rfl (lv_at hl 1 rfl) ?_
  refine xw_get (C := R_RW) (T := F_RW) (N := 2) (r := 7) (i := 0) hx hb hts hi_RW hown hK hX (by decide) rfl rfl 0 (by decide) (hts _ w_66) rfl rfl d_RW_add_22 ?_
  refine lv_iload hx hb d_RW_add_25 (lv_at hl 0 rfl) ?_
  refine lv_iconst (v := 1) hx hb d_RW_add_27 (by decide) ?_
  refine lv_iadd hx hb d_RW_add_28 ?_
  refine lv_iload_n hx hb d_RW_add_29 rfl (lv_at hl 3 rfl) ?_
  refine xw_iast (r := 8) (i := 0) (ent' := XE dA (xB s0) (xuI (xuI σ 8 0 (((σ.2 7 0 1) - (σ.2 7 0 1) / (100 : Int64) * (100 : Int64)).toInt32 * (3 : Int32)).toNatClampNeg a) 8 0 ((((σ.2 7 0 1) - (σ.2 7 0 1) / (100 : Int64) * (100 : Int64)).toInt32 * (3 : Int32)) + (1 : Int32)).toNatClampNeg b)) hx hb hK xInj hX hS (xA_in _ _ _) (by decide) 0 rfl rfl (j := ((((σ.2 7 0 1) - (σ.2 7 0 1) / (100 : Int64) * (100 : Int64)).toInt32 * (3 : Int32)) + (1 : Int32))) (o_row1 hm) ((xe_uI dA (xB s0) (xuI σ 8 0 (((σ.2 7 0 1) - (σ.2 7 0 1) / (100 : Int64) * (100 : Int64)).toInt32 * (3 : Int32)).toNatClampNeg a) 8 0 ((((σ.2 7 0 1) - (σ.2 7 0 1) / (100 : Int64) * (100 : Int64)).toInt32 * (3 : Int32)) + (1 : Int32)).toNatClampNeg b).trans rfl) (xe_oI dA (xB s0) (xuI σ 8 0 (((σ.2 7 0 1) - (σ.2 7 0 1) / (100 : Int64) * (100 : Int64)).toInt32 * (3 : Int32)).toNatClampNeg a) 8 0 ((((σ.2 7 0 1) - (σ.2 7 0 1) / (100 : Int64) * (100 : Int64)).toInt32 * (3 : Int32)) + (1 : Int32)).toNatClampNeg b) d_RW_add_30 (fun H locs hX hS => ?_)
  refine lv_aload_n hx hb d_RW_add_31 rfl (lv_at hl 1 rfl) ?_
  refine xw_get (C := R_RW) (T := F_RW) (N := 2) (r := 7) (i := 0) hx hb hts hi_RW hown hK hX (by decide) rfl rfl 0 (by decide) (hts _ w_66) rfl rfl d_RW_add_32 ?_
  refine lv_iload hx hb d_RW_add_35 (lv_at hl 0 rfl) ?_
  refine lv_iconst (v := 2) hx hb d_RW_add_37 (by decide) ?_
  refine lv_iadd hx hb d_RW_add_38 ?_
  refine lv_iload_n hx hb d_RW_add_39 rfl (lv_at hl 4 rfl) ?_
  refine xw_iast (r := 8) (i := 0) (ent' := XE dA (xB s0) (xuI (xuI (xuI σ 8 0 (((σ.2 7 0 1) - (σ.2 7 0 1) / (100 : Int64) * (100 : Int64)).toInt32 * (3 : Int32)).toNatClampNeg a) 8 0 ((((σ.2 7 0 1) - (σ.2 7 0 1) / (100 : Int64) * (100 : Int64)).toInt32 * (3 : Int32)) + (1 : Int32)).toNatClampNeg b) 8 0 ((((σ.2 7 0 1) - (σ.2 7 0 1) / (100 : Int64) * (100 : Int64)).toInt32 * (3 : Int32)) + (2 : Int32)).toNatClampNeg n)) hx hb hK xInj hX hS (xA_in _ _ _) (by decide) 0 rfl rfl (j := ((((σ.2 7 0 1) - (σ.2 7 0 1) / (100 : Int64) * (100 : Int64)).toInt32 * (3 : Int32)) + (2 : Int32))) (o_row2 hm) ((xe_uI dA (xB s0) (xuI (xuI σ 8 0 (((σ.2 7 0 1) - (σ.2 7 0 1) / (100 : Int64) * (100 : Int64)).toInt32 * (3 : Int32)).toNatClampNeg a) 8 0 ((((σ.2 7 0 1) - (σ.2 7 0 1) / (100 : Int64) * (100 : Int64)).toInt32 * (3 : Int32)) + (1 : Int32)).toNatClampNeg b) 8 0 ((((σ.2 7 0 1) - (σ.2 7 0 1) / (100 : Int64) * (100 : Int64)).toInt32 * (3 : Int32)) + (2 : Int32)).toNatClampNeg n).trans rfl) (xe_oI dA (xB s0) (xuI (xuI σ 8 0 (((σ.2 7 0 1) - (σ.2 7 0 1) / (100 : Int64) * (100 : Int64)).toInt32 * (3 : Int32)).toNatClampNeg a) 8 0 ((((σ.2 7 0 1) - (σ.2 7 0 1) / (100 : Int64) * (100 : Int64)).toInt32 * (3 : Int32)) + (1 : Int32)).toNatClampNeg b) 8 0 ((((σ.2 7 0 1) - (σ.2 7 0 1) / (100 : Int64) * (100 : Int64)).toInt32 * (3 : Int32)) + (2 : Int32)).toNatClampNeg n) d_RW_add_40 (fun H locs hX hS => ?_)
  refine lv_aload_n hx hb d_RW_add_41 rfl (lv_at hl 1 rfl) ?_
  refine lv_dup hx hb d_RW_add_42 rfl ?_
  refine xw_get (C := R_RW) (T := F_RW) (N := 2) (r := 7) (i := 0) hx hb hts hi_RW hown hK hX (by decide) rfl rfl 1 (by decide) (hts _ w_67) rfl rfl d_RW_add_43 ?_
  refine lv_lconst (v := 1) hx hb d_RW_add_46 (by decide) ?_
  refine lv_ladd hx hb d_RW_add_47 ?_
  refine xw_put (C := R_RW) (T := F_RW) (N := 2) (r := 7) (i := 0) (ent' := XE dA (xB s0) (xuL (xuI (xuI (xuI σ 8 0 (((σ.2 7 0 1) - (σ.2 7 0 1) / (100 : Int64) * (100 : Int64)).toInt32 * (3 : Int32)).toNatClampNeg a) 8 0 ((((σ.2 7 0 1) - (σ.2 7 0 1) / (100 : Int64) * (100 : Int64)).toInt32 * (3 : Int32)) + (1 : Int32)).toNatClampNeg b) 8 0 ((((σ.2 7 0 1) - (σ.2 7 0 1) / (100 : Int64) * (100 : Int64)).toInt32 * (3 : Int32)) + (2 : Int32)).toNatClampNeg n) 7 0 1 (((xuI (xuI (xuI σ 8 0 (((σ.2 7 0 1) - (σ.2 7 0 1) / (100 : Int64) * (100 : Int64)).toInt32 * (3 : Int32)).toNatClampNeg a) 8 0 ((((σ.2 7 0 1) - (σ.2 7 0 1) / (100 : Int64) * (100 : Int64)).toInt32 * (3 : Int32)) + (1 : Int32)).toNatClampNeg b) 8 0 ((((σ.2 7 0 1) - (σ.2 7 0 1) / (100 : Int64) * (100 : Int64)).toInt32 * (3 : Int32)) + (2 : Int32)).toNatClampNeg n).2 7 0 1) + (1 : Int64)))) hx hb hts hi_RW t_RW t_RW_ok n_RW hown hK xInj hX hS (xA_in _ _ _) (by decide) rfl rfl 1 (by decide) (hts _ w_67) rfl rfl rfl rfl (Nat.le_of_ble_eq_true rfl) ((xe_uL dA (xB s0) (xuI (xuI (xuI σ 8 0 (((σ.2 7 0 1) - (σ.2 7 0 1) / (100 : Int64) * (100 : Int64)).toInt32 * (3 : Int32)).toNatClampNeg a) 8 0 ((((σ.2 7 0 1) - (σ.2 7 0 1) / (100 : Int64) * (100 : Int64)).toInt32 * (3 : Int32)) + (1 : Int32)).toNatClampNeg b) 8 0 ((((σ.2 7 0 1) - (σ.2 7 0 1) / (100 : Int64) * (100 : Int64)).toInt32 * (3 : Int32)) + (2 : Int32)).toNatClampNeg n) 7 0 1 (((xuI (xuI (xuI σ 8 0 (((σ.2 7 0 1) - (σ.2 7 0 1) / (100 : Int64) * (100 : Int64)).toInt32 * (3 : Int32)).toNatClampNeg a) 8 0 ((((σ.2 7 0 1) - (σ.2 7 0 1) / (100 : Int64) * (100 : Int64)).toInt32 * (3 : Int32)) + (1 : Int32)).toNatClampNeg b) 8 0 ((((σ.2 7 0 1) - (σ.2 7 0 1) / (100 : Int64) * (100 : Int64)).toInt32 * (3 : Int32)) + (2 : Int32)).toNatClampNeg n).2 7 0 1) + (1 : Int64))).trans rfl) (xe_oL dA (xB s0) (xuI (xuI (xuI σ 8 0 (((σ.2 7 0 1) - (σ.2 7 0 1) / (100 : Int64) * (100 : Int64)).toInt32 * (3 : Int32)).toNatClampNeg a) 8 0 ((((σ.2 7 0 1) - (σ.2 7 0 1) / (100 : Int64) * (100 : Int64)).toInt32 * (3 : Int32)) + (1 : Int32)).toNatClampNeg b) 8 0 ((((σ.2 7 0 1) - (σ.2 7 0 1) / (100 : Int64) * (100 : Int64)).toInt32 * (3 : Int32)) + (2 : Int32)).toNatClampNeg n) 7 0 1 (((xuI (xuI (xuI σ 8 0 (((σ.2 7 0 1) - (σ.2 7 0 1) / (100 : Int64) * (100 : Int64)).toInt32 * (3 : Int32)).toNatClampNeg a) 8 0 ((((σ.2 7 0 1) - (σ.2 7 0 1) / (100 : Int64) * (100 : Int64)).toInt32 * (3 : Int32)) + (1 : Int32)).toNatClampNeg b) 8 0 ((((σ.2 7 0 1) - (σ.2 7 0 1) / (100 : Int64) * (100 : Int64)).toInt32 * (3 : Int32)) + (2 : Int32)).toNatClampNeg n).2 7 0 1) + (1 : Int64))) d_RW_add_48 (fun H locs hX hS => ?_)
  subst hR
  refine W.widen (k := 0) (n := 0) (by decide) (by decide) ?_; exact xs_v hx hb hr hlocks hX hS d_RW_add_51

abbrev rm_RW_keeps : Room := { frames := 0, cells := 0, slots := 0, locals := 0 }
def S_RW_keeps (σ : XS) (a : Int32) : Int32 := (if a < 0 then (0 : Int32) else (if 0 ≤ (lg_cmp a.toInt64 (σ.2 7 0 1)) then (0 : Int32) else (if (lg_cmp a.toInt64 ((σ.2 7 0 1) - (100 : Int64))) < 0 then (0 : Int32) else (1 : Int32))))
set_option maxHeartbeats 4000000 in
set_option maxRecDepth 100000 in
theorem c_RW_keeps {l : Launch} {s0 : State} {A0 : Array Value} {D : va_G} {dA : Nat → ClassId} (h0 : XS0 l s0 A0 D dA) (σ : XS) (a : Int32)  : XMet l y_RW_keeps [cw_RW_keeps] rm_RW_keeps (XP D dA s0 σ [.ref (xB s0 + XA 7 0), .int a]) (XQp xv_i (.inl (S_RW_keeps σ a))) 0 0 (fun _ => False) := by
  refine XMet.ofW (cc := b_RW_keeps) (maxL := 2) (ret := (some .boolean)) (by decide) rfl ?_
  intro p e s m args below meth c s₁ Bd hml hvA
  obtain ⟨rfl, hX, hO⟩ := hvA
  have hx := Bd.exec
  have hb := Bd.bytes
  have hr := Bd.returns
  have hown : s.vm.findClass "LoadChecks$Rows" = some m.cls := findClass_of_methodNamed Bd.named
  have hlocks := Bd.notSynchronized
  have hnt : c.exceptionTable.isEmpty = true := Bd.noHandlers (atoms_spec (ws := [cw_RW_keeps]) Bd.pre _ List.mem_cons_self)
  have hW0 := hO.1
  have hts := xs_w (args := ([.ref (xB s0 + XA 7 0), .int a] : List Value).toArray) h0 hW0
  have hK := xs_K h0 hW0
  have hl := lv_entry ([.ref (xB s0 + XA 7 0), .int a]) (n := 2) (Nat.le_of_ble_eq_true rfl)
  rw [lg_entry_eq]
  generalize (lg_sl ([.ref (xB s0 + XA 7 0), .int a]) ++ List.replicate (2 - (lg_sl ([.ref (xB s0 + XA 7 0), .int a])).length) Slot.unset).toArray = ls at hl ⊢
  have hl : lv_has ls 2 [(0, .ref (xB s0 + XA 7 0)), (1, .int a)] := hl
  generalize hR : S_RW_keeps σ a = res
  unfold S_RW_keeps at hR
  refine lv_iload_n hx hb d_RW_keeps_0 rfl (lv_at hl 1 rfl) ?_
  refine lv_if_lt (tgt := 32) hx hb d_RW_keeps_1 (by decide) (fun c1 => ?_) (fun c1 => ?_)
  · rw [if_pos c1] at hR
    refine lv_iconst (v := 0) hx hb d_RW_keeps_32 (by decide) ?_
    subst hR
    refine W.widen (k := 0) (n := 0) (by decide) (by decide) ?_; exact xr_z hx hb hr hlocks (by rfl) d_RW_keeps_33
  · rw [if_neg c1] at hR
    refine lv_iload_n hx hb d_RW_keeps_4 rfl (lv_at hl 1 rfl) ?_
    refine lv_i2l hx hb d_RW_keeps_5 rfl ?_
    refine lv_aload_n hx hb d_RW_keeps_6 rfl (lv_at hl 0 rfl) ?_
    refine xw_get (C := R_RW) (T := F_RW) (N := 2) (r := 7) (i := 0) hx hb hts hi_RW hown hK hX (by decide) rfl rfl 1 (by decide) (hts _ w_67) rfl rfl d_RW_keeps_7 ?_
    refine W.lcmp hx hb d_RW_keeps_10 ?_
    refine lv_if_ge (tgt := 32) hx hb d_RW_keeps_11 (by decide) (fun c11 => ?_) (fun c11 => ?_)
    · rw [if_pos c11] at hR
      refine lv_iconst (v := 0) hx hb d_RW_keeps_32 (by decide) ?_
      subst hR
      refine W.widen (k := 0) (n := 0) (by decide) (by decide) ?_; exact xr_z hx hb hr hlocks (by rfl) d_RW_keeps_33
    · rw [if_neg c11] at hR
      refine lv_iload_n hx hb d_RW_keeps_14 rfl (lv_at hl 1 rfl) ?_
      refine lv_i2l hx hb d_RW_keeps_15 rfl ?_
      refine lv_aload_n hx hb d_RW_keeps_16 rfl (lv_at hl 0 rfl) ?_
      refine xw_get (C := R_RW) (T := F_RW) (N := 2) (r := 7) (i := 0) hx hb hts hi_RW hown hK hX (by decide) rfl rfl 1 (by decide) (hts _ w_67) rfl rfl d_RW_keeps_17 ?_
      refine lv_ldc2 (v := 100) hx hb hown (hts _ w_443) d_RW_keeps_20 ?_
      refine lv_lsub hx hb d_RW_keeps_23 ?_
      refine W.lcmp hx hb d_RW_keeps_24 ?_
      refine lv_if_lt (tgt := 32) hx hb d_RW_keeps_25 (by decide) (fun c25 => ?_) (fun c25 => ?_)
      · rw [if_pos c25] at hR
        refine lv_iconst (v := 0) hx hb d_RW_keeps_32 (by decide) ?_
        subst hR
        refine W.widen (k := 0) (n := 0) (by decide) (by decide) ?_; exact xr_z hx hb hr hlocks (by rfl) d_RW_keeps_33
      · rw [if_neg c25] at hR
        refine lv_iconst (v := 1) hx hb d_RW_keeps_28 (by decide) ?_
        refine lv_goto (tgt := 33) hx hb d_RW_keeps_29 (by decide) ?_
        subst hR
        refine W.widen (k := 0) (n := 0) (by decide) (by decide) ?_; exact xr_z hx hb hr hlocks (by rfl) d_RW_keeps_33

abbrev rm_RW_number : Room := { frames := 0, cells := 0, slots := 0, locals := 0 }
def S_RW_number (σ : XS) (a : Int32) (b : Int32) : Int32 := (σ.1 8 0 (((a - a / (100 : Int32) * (100 : Int32)) * (3 : Int32)) + b).toNatClampNeg)
set_option maxHeartbeats 4000000 in
set_option maxRecDepth 100000 in
theorem c_RW_number {l : Launch} {s0 : State} {A0 : Array Value} {D : va_G} {dA : Nat → ClassId} (h0 : XS0 l s0 A0 D dA) (σ : XS) (a : Int32) (b : Int32) (hn : vp_in ((a - a / (100 : Int32) * (100 : Int32)) * (3 : Int32) + b) 300) : XMet l y_RW_number [cw_RW_number] rm_RW_number (XP D dA s0 σ [.ref (xB s0 + XA 7 0), .int a, .int b]) (XQp xv_i (.inl (S_RW_number σ a b))) 0 0 (fun _ => False) := by
  refine XMet.ofW (cc := b_RW_number) (maxL := 3) (ret := (some .int)) (by decide) rfl ?_
  intro p e s m args below meth c s₁ Bd hml hvA
  obtain ⟨rfl, hX, hO⟩ := hvA
  have hx := Bd.exec
  have hb := Bd.bytes
  have hr := Bd.returns
  have hown : s.vm.findClass "LoadChecks$Rows" = some m.cls := findClass_of_methodNamed Bd.named
  have hlocks := Bd.notSynchronized
  have hnt : c.exceptionTable.isEmpty = true := Bd.noHandlers (atoms_spec (ws := [cw_RW_number]) Bd.pre _ List.mem_cons_self)
  have hW0 := hO.1
  have hts := xs_w (args := ([.ref (xB s0 + XA 7 0), .int a, .int b] : List Value).toArray) h0 hW0
  have hK := xs_K h0 hW0
  have hl := lv_entry ([.ref (xB s0 + XA 7 0), .int a, .int b]) (n := 3) (Nat.le_of_ble_eq_true rfl)
  rw [lg_entry_eq]
  generalize (lg_sl ([.ref (xB s0 + XA 7 0), .int a, .int b]) ++ List.replicate (3 - (lg_sl ([.ref (xB s0 + XA 7 0), .int a, .int b])).length) Slot.unset).toArray = ls at hl ⊢
  have hl : lv_has ls 3 [(0, .ref (xB s0 + XA 7 0)), (1, .int a), (2, .int b)] := hl
  generalize hR : S_RW_number σ a b = res
  unfold S_RW_number at hR
  refine lv_aload_n hx hb d_RW_number_0 rfl (lv_at hl 0 rfl) ?_
  refine xw_get (C := R_RW) (T := F_RW) (N := 2) (r := 7) (i := 0) hx hb hts hi_RW hown hK hX (by decide) rfl rfl 0 (by decide) (hts _ w_66) rfl rfl d_RW_number_1 ?_
  refine lv_iload_n hx hb d_RW_number_4 rfl (lv_at hl 1 rfl) ?_
  refine lv_bipush (v := 100) hx hb d_RW_number_5 (by decide) ?_
  refine lv_irem hx hb d_RW_number_7 (by decide) ?_
  refine lv_iconst (v := 3) hx hb d_RW_number_8 (by decide) ?_
  refine lv_imul hx hb d_RW_number_9 ?_
  refine lv_iload_n hx hb d_RW_number_10 rfl (lv_at hl 2 rfl) ?_
  refine lv_iadd hx hb d_RW_number_11 ?_
  refine xw_iald (r := 8) (i := 0) hx hb hK hX (by decide) 0 rfl rfl (j := (((a - a / (100 : Int32) * (100 : Int32)) * (3 : Int32)) + b)) hn d_RW_number_12 ?_
  subst hR
  refine W.widen (k := 0) (n := 0) (by decide) (by decide) ?_; exact xr_i hx hb hr hlocks d_RW_number_13

abbrev rm_LC_requireSoMany : Room := { frames := 6, cells := 1, slots := 6, locals := 82 }
def S_LC_requireSoMany (σ : XS) (i : Nat) (cell : Int32) (n : Int32) : Unit ⊕ String := (if n ≤ (σ.1 12 i cell.toNatClampNeg) then .inl () else .inr "java/lang/IllegalStateException")
set_option maxHeartbeats 4000000 in
set_option maxRecDepth 100000 in
theorem c_LC_requireSoMany {l : Launch} {s0 : State} {A0 : Array Value} {D : va_G} {dA : Nat → ClassId} (h0 : XS0 l s0 A0 D dA) (σ : XS) (i : Nat) (cell : Int32) (n : Int32) (hi_i : i < 16) (hc : vp_in cell 240) : XMet l y_LC_requireSoMany [cw_LC_requireSoMany] rm_LC_requireSoMany (XP D dA s0 σ [.ref (xB s0 + XA 9 i), .int cell, .int n]) (XQp xv_v (S_LC_requireSoMany σ i cell n)) 1 6 (fun _ => False) := by
  refine XMet.ofW (cc := b_LC_requireSoMany) (maxL := 3) (ret := none) (by decide) rfl ?_
  intro p e s m args below meth c s₁ Bd hml hvA
  obtain ⟨rfl, hX, hO⟩ := hvA
  have hx := Bd.exec
  have hb := Bd.bytes
  have hr := Bd.returns
  have hown : s.vm.findClass "LoadChecks" = some m.cls := findClass_of_methodNamed Bd.named
  have hlocks := Bd.notSynchronized
  have hnt : c.exceptionTable.isEmpty = true := Bd.noHandlers (atoms_spec (ws := [cw_LC_requireSoMany]) Bd.pre _ List.mem_cons_self)
  have hW0 := hO.1
  have hts := xs_w (args := ([.ref (xB s0 + XA 9 i), .int cell, .int n] : List Value).toArray) h0 hW0
  have hK := xs_K h0 hW0
  have hl := lv_entry ([.ref (xB s0 + XA 9 i), .int cell, .int n]) (n := 3) (Nat.le_of_ble_eq_true rfl)
  rw [lg_entry_eq]
  generalize (lg_sl ([.ref (xB s0 + XA 9 i), .int cell, .int n]) ++ List.replicate (3 - (lg_sl ([.ref (xB s0 + XA 9 i), .int cell, .int n])).length) Slot.unset).toArray = ls at hl ⊢
  have hl : lv_has ls 3 [(0, .ref (xB s0 + XA 9 i)), (1, .int cell), (2, .int n)] := hl
  generalize hR : S_LC_requireSoMany σ i cell n = res
  unfold S_LC_requireSoMany at hR
  refine lv_aload_n hx hb d_LC_requireSoMany_0 rfl (lv_at hl 0 rfl) ?_
  refine xw_getN (C := R_VE) (T := F_VE) (N := 13) (r := 9) (i := i) hx hb hts hi_VE hown hK hX hi_i rfl rfl 2 (by decide) (xs_N h0 hW0 m_87) rfl rfl d_LC_requireSoMany_1 ?_
  refine lv_iload_n hx hb d_LC_requireSoMany_4 rfl (lv_at hl 1 rfl) ?_
  refine xw_iald (r := 12) (i := i) hx hb hK hX hi_i 0 rfl rfl (j := cell) hc d_LC_requireSoMany_5 ?_
  refine lv_iload_n hx hb d_LC_requireSoMany_6 rfl (lv_at hl 2 rfl) ?_
  refine lv_icmp_ge (tgt := 20) hx hb d_LC_requireSoMany_7 (by decide) (fun c7 => ?_) (fun c7 => ?_)
  · rw [if_pos c7] at hR
    subst hR
    refine W.widen (k := 1) (n := 6) (by decide) (by decide) ?_; exact xr_v hx hb hr hlocks d_LC_requireSoMany_20
  · rw [if_neg c7] at hR
    obtain ⟨qs, hqs⟩ := xs_str h0 hW0 (own := "LoadChecks") (k := 228) (tx := "there are not so many") (by decide +kernel); subst hR; refine W.widen (k := 0) (n := 0) (by decide) (by decide) ?_; exact x_throw hx hb h0.1 hown hlocks hnt (hl.1.trans hml.symm) (hts _ w_314) (hts _ w_45) hqs (x_own hO rfl (oa_ISE h0)) (by decide +kernel) (by decide +kernel) d_LC_requireSoMany_10 d_LC_requireSoMany_13 d_LC_requireSoMany_14 d_LC_requireSoMany_16 d_LC_requireSoMany_19 (Nat.le_of_ble_eq_true rfl) (Nat.le_of_ble_eq_true rfl) (Nat.le_of_ble_eq_true rfl) (Nat.le_of_ble_eq_true rfl) (fun x t h1 h2 => Or.inr ⟨_, x, rfl, rfl, h1, h2⟩)

abbrev rm_LC_requireBearable : Room := { frames := 6, cells := 1, slots := 6, locals := 82 }
def S_LC_requireBearable (σ : XS) (i : Nat) (cell : Int32) (n : Int32) : Unit ⊕ String := (if (S_VE_bears σ i cell n (σ.1 1 0 (cell - cell / (30 : Int32) * (30 : Int32)).toNatClampNeg)) = 0 then .inr "java/lang/IllegalStateException" else .inl ())
set_option maxHeartbeats 4000000 in
set_option maxRecDepth 100000 in
theorem c_LC_requireBearable {l : Launch} {s0 : State} {A0 : Array Value} {D : va_G} {dA : Nat → ClassId} (h0 : XS0 l s0 A0 D dA) (σ : XS) (i : Nat) (cell : Int32) (n : Int32) (hi_i : i < 16) (hc : vp_in cell 240) : XMet l y_LC_requireBearable [cw_LC_requireBearable] rm_LC_requireBearable (XP D dA s0 σ [.ref (xB s0 + XA 0 0), .ref (xB s0 + XA 9 i), .int cell, .int n]) (XQp xv_v (S_LC_requireBearable σ i cell n)) 1 6 (fun _ => False) := by
  refine XMet.ofW (cc := b_LC_requireBearable) (maxL := 4) (ret := none) (by decide) rfl ?_
  intro p e s m args below meth c s₁ Bd hml hvA
  obtain ⟨rfl, hX, hO⟩ := hvA
  have hx := Bd.exec
  have hb := Bd.bytes
  have hr := Bd.returns
  have hown : s.vm.findClass "LoadChecks" = some m.cls := findClass_of_methodNamed Bd.named
  have hlocks := Bd.notSynchronized
  have hnt : c.exceptionTable.isEmpty = true := Bd.noHandlers (atoms_spec (ws := [cw_LC_requireBearable]) Bd.pre _ List.mem_cons_self)
  have hW0 := hO.1
  have hts := xs_w (args := ([.ref (xB s0 + XA 0 0), .ref (xB s0 + XA 9 i), .int cell, .int n] : List Value).toArray) h0 hW0
  have hK := xs_K h0 hW0
  have hl := lv_entry ([.ref (xB s0 + XA 0 0), .ref (xB s0 + XA 9 i), .int cell, .int n]) (n := 4) (Nat.le_of_ble_eq_true rfl)
  rw [lg_entry_eq]
  generalize (lg_sl ([.ref (xB s0 + XA 0 0), .ref (xB s0 + XA 9 i), .int cell, .int n]) ++ List.replicate (4 - (lg_sl ([.ref (xB s0 + XA 0 0), .ref (xB s0 + XA 9 i), .int cell, .int n])).length) Slot.unset).toArray = ls at hl ⊢
  have hl : lv_has ls 4 [(0, .ref (xB s0 + XA 0 0)), (1, .ref (xB s0 + XA 9 i)), (2, .int cell), (3, .int n)] := hl
  generalize hR : S_LC_requireBearable σ i cell n = res
  unfold S_LC_requireBearable at hR
  refine lv_aload_n hx hb d_LC_requireBearable_0 rfl (lv_at hl 1 rfl) ?_
  refine lv_iload_n hx hb d_LC_requireBearable_1 rfl (lv_at hl 2 rfl) ?_
  refine lv_iload_n hx hb d_LC_requireBearable_2 rfl (lv_at hl 3 rfl) ?_
  refine lv_aload_n hx hb d_LC_requireBearable_3 rfl (lv_at hl 0 rfl) ?_
  refine xw_get (C := R_LC) (T := F_LC) (N := 9) (r := 0) (i := 0) hx hb hts hi_LC hown hK hX (by decide) rfl rfl 0 (by decide) (hts _ w_133) rfl rfl d_LC_requireBearable_4 ?_
  refine lv_iload_n hx hb d_LC_requireBearable_7 rfl (lv_at hl 2 rfl) ?_
  refine lv_bipush (v := 30) hx hb d_LC_requireBearable_8 (by decide) ?_
  refine lv_irem hx hb d_LC_requireBearable_10 (by decide) ?_
  refine xw_iald (r := 1) (i := 0) hx hb hK hX (by decide) 0 rfl rfl (j := (cell - cell / (30 : Int32) * (30 : Int32))) (o_rem hc) d_LC_requireBearable_11 ?_
  obtain ⟨cB12, hcB12, hoB12, hkB12⟩ := xw_recv (r := 9) (i := i) hK hX hi_i rfl rfl
  refine xc_f (rest := []) (x_invVN (argsL := [.int cell, .int n, .int (σ.1 1 0 (cell - cell / (30 : Int32) * (30 : Int32)).toNatClampNeg)]) hx hb hown (xs_M h0 hW0 m_378) (hts _ w_380) (hts _ w_6) (x_code (hts _ w_381)) ⟨by decide, by decide⟩ hcB12 hoB12 hkB12 rfl rfl rfl d_LC_requireBearable_12) (c_VE_bears h0 σ i cell n (σ.1 1 0 (cell - cell / (30 : Int32) * (30 : Int32)).toNatClampNeg) hi_i hc) (xs_cw h0 hW0 m_381) (hts _ w_36) ⟨rfl, rfl, Nat.le_of_ble_eq_true rfl, Nat.le_of_ble_eq_true rfl⟩ (hl.1.trans hml.symm) (by rw [hb]; exact d_LC_requireBearable_12) (Nat.le_of_ble_eq_true rfl) ⟨Nat.le_of_ble_eq_true rfl, Nat.le_of_ble_eq_true rfl⟩ hX hO ?_
  refine lv_if_ne (tgt := 28) hx hb d_LC_requireBearable_15 (by decide) (fun c15 => ?_) (fun c15 => ?_)
  · rw [if_neg c15] at hR
    subst hR
    refine W.widen (k := 1) (n := 6) (by decide) (by decide) ?_; exact xr_v hx hb hr hlocks d_LC_requireBearable_28
  · rw [if_pos c15] at hR
    obtain ⟨qs, hqs⟩ := xs_str h0 hW0 (own := "LoadChecks") (k := 230) (tx := "an axle would be beyond its limit") (by decide +kernel); subst hR; refine W.widen (k := 0) (n := 0) (by decide) (by decide) ?_; exact x_throw hx hb h0.1 hown hlocks hnt (hl.1.trans hml.symm) (hts _ w_314) (hts _ w_45) hqs (x_own hO rfl (oa_ISE h0)) (by decide +kernel) (by decide +kernel) d_LC_requireBearable_18 d_LC_requireBearable_21 d_LC_requireBearable_22 d_LC_requireBearable_24 d_LC_requireBearable_27 (Nat.le_of_ble_eq_true rfl) (Nat.le_of_ble_eq_true rfl) (Nat.le_of_ble_eq_true rfl) (Nat.le_of_ble_eq_true rfl) (fun x t h1 h2 => Or.inr ⟨_, x, rfl, rfl, h1, h2⟩)

abbrev rm_LC_requireRoom : Room := { frames := 6, cells := 1, slots := 6, locals := 82 }
def S_LC_requireRoom (σ : XS) (i : Nat) (cell : Int32) (n : Int32) : Unit ⊕ String := (if ((σ.1 12 i cell.toNatClampNeg) + n) ≤ (99 : Int32) then .inl () else .inr "java/lang/UnsupportedOperationException")
set_option maxHeartbeats 4000000 in
set_option maxRecDepth 100000 in
theorem c_LC_requireRoom {l : Launch} {s0 : State} {A0 : Array Value} {D : va_G} {dA : Nat → ClassId} (h0 : XS0 l s0 A0 D dA) (σ : XS) (i : Nat) (cell : Int32) (n : Int32) (hi_i : i < 16) (hc : vp_in cell 240) : XMet l y_LC_requireRoom [cw_LC_requireRoom] rm_LC_requireRoom (XP D dA s0 σ [.ref (xB s0 + XA 9 i), .int cell, .int n]) (XQp xv_v (S_LC_requireRoom σ i cell n)) 1 6 (fun _ => False) := by
  refine XMet.ofW (cc := b_LC_requireRoom) (maxL := 3) (ret := none) (by decide) rfl ?_
  intro p e s m args below meth c s₁ Bd hml hvA
  obtain ⟨rfl, hX, hO⟩ := hvA
  have hx := Bd.exec
  have hb := Bd.bytes
  have hr := Bd.returns
  have hown : s.vm.findClass "LoadChecks" = some m.cls := findClass_of_methodNamed Bd.named
  have hlocks := Bd.notSynchronized
  have hnt : c.exceptionTable.isEmpty = true := Bd.noHandlers (atoms_spec (ws := [cw_LC_requireRoom]) Bd.pre _ List.mem_cons_self)
  have hW0 := hO.1
  have hts := xs_w (args := ([.ref (xB s0 + XA 9 i), .int cell, .int n] : List Value).toArray) h0 hW0
  have hK := xs_K h0 hW0
  have hl := lv_entry ([.ref (xB s0 + XA 9 i), .int cell, .int n]) (n := 3) (Nat.le_of_ble_eq_true rfl)
  rw [lg_entry_eq]
  generalize (lg_sl ([.ref (xB s0 + XA 9 i), .int cell, .int n]) ++ List.replicate (3 - (lg_sl ([.ref (xB s0 + XA 9 i), .int cell, .int n])).length) Slot.unset).toArray = ls at hl ⊢
  have hl : lv_has ls 3 [(0, .ref (xB s0 + XA 9 i)), (1, .int cell), (2, .int n)] := hl
  generalize hR : S_LC_requireRoom σ i cell n = res
  unfold S_LC_requireRoom at hR
  refine lv_aload_n hx hb d_LC_requireRoom_0 rfl (lv_at hl 0 rfl) ?_
  refine xw_getN (C := R_VE) (T := F_VE) (N := 13) (r := 9) (i := i) hx hb hts hi_VE hown hK hX hi_i rfl rfl 2 (by decide) (xs_N h0 hW0 m_87) rfl rfl d_LC_requireRoom_1 ?_
  refine lv_iload_n hx hb d_LC_requireRoom_4 rfl (lv_at hl 1 rfl) ?_
  refine xw_iald (r := 12) (i := i) hx hb hK hX hi_i 0 rfl rfl (j := cell) hc d_LC_requireRoom_5 ?_
  refine lv_iload_n hx hb d_LC_requireRoom_6 rfl (lv_at hl 2 rfl) ?_
  refine lv_iadd hx hb d_LC_requireRoom_7 ?_
  refine lv_bipush (v := 99) hx hb d_LC_requireRoom_8 (by decide) ?_
  refine lv_icmp_le (tgt := 23) hx hb d_LC_requireRoom_10 (by decide) (fun c10 => ?_) (fun c10 => ?_)
  · rw [if_pos c10] at hR
    subst hR
    refine W.widen (k := 1) (n := 6) (by decide) (by decide) ?_; exact xr_v hx hb hr hlocks d_LC_requireRoom_23
  · rw [if_neg c10] at hR
    obtain ⟨qs, hqs⟩ := xs_str h0 hW0 (own := "LoadChecks") (k := 232) (tx := "no room in the cupboard") (by decide +kernel); subst hR; refine W.widen (k := 0) (n := 0) (by decide) (by decide) ?_; exact x_throw hx hb h0.1 hown hlocks hnt (hl.1.trans hml.symm) (hts _ w_267) (hts _ w_44) hqs (x_own hO rfl (oa_UOE h0)) (by decide +kernel) (by decide +kernel) d_LC_requireRoom_13 d_LC_requireRoom_16 d_LC_requireRoom_17 d_LC_requireRoom_19 d_LC_requireRoom_22 (Nat.le_of_ble_eq_true rfl) (Nat.le_of_ble_eq_true rfl) (Nat.le_of_ble_eq_true rfl) (Nat.le_of_ble_eq_true rfl) (fun x t h1 h2 => Or.inr ⟨_, x, rfl, rfl, h1, h2⟩)

abbrev rm_LC_isAnywhere : Room := { frames := 2, cells := 0, slots := 0, locals := 43 }
def L_LC_isAnywhere : Nat → XS → Int32 → Int32 → Int32
  | 0, _, _, _ => default
  | n + 1, σ, it, x2 => (if (σ.1 0 0 6) ≤ x2 then (0 : Int32) else (if (S_VE_carries σ x2.toNatClampNeg it) = 0 then (L_LC_isAnywhere n σ it (x2 + 1)) else (1 : Int32)))
def S_LC_isAnywhere (σ : XS) (it : Int32) : Int32 := (if (σ.1 3 0 it.toNatClampNeg) ≤ 0 then (L_LC_isAnywhere 17 σ it (0 : Int32)) else (1 : Int32))
set_option maxHeartbeats 4000000 in
set_option maxRecDepth 100000 in
theorem l_LC_isAnywhere {l : Launch} {s0 : State} {A0 : Array Value} {D : va_G} {dA : Nat → ClassId} (h0 : XS0 l s0 A0 D dA) {p : Program} {e : Env} {s : State} {m : MethodId} {args : Array Value} {below : List Frame} {meth : Method} {c : Code} (hx : p.tables.exec = Jvm.exec) (hb : c.code = b_LC_isAnywhere) (hr : meth.sig.returnType = (some .boolean)) (hml : c.maxLocals = 3) (hown : s.vm.findClass "LoadChecks" = some m.cls) (hlocks : meth.locks = false) (hnt : c.exceptionTable.isEmpty = true) (hO : XO s0 s s.heap) :
    ∀ (n : Nat) (σ : XS) (it : Int32) (x2 : Int32) (k : Nat), x2 = nI k → k + n = 17 → k < 17 → XOk σ → vp_in it 30 → XWs D dA s0 σ s.heap → ∀ (ls : Array Slot), lv_has ls 3 [(0, .ref (xB s0 + XA 0 0)), (1, .int it), (2, .int x2)] → ∀ res, L_LC_isAnywhere n σ it x2 = res →
    W p l e rm_LC_isAnywhere s m args below meth c s.heap [] 0 0 (XMQ below (XQp xv_i (.inl res)) args s 0 0 (fun _ => False)) (F0 m 13 ls []) := by
  have hW0 := hO.1
  have hts := xs_w (args := args) h0 hW0
  have hK := xs_K h0 hW0
  intro n
  induction n with
  | zero =>
    intro σ it x2 k e1 h2 h3
    exact absurd h2 (by omega)
  | succ n ih =>
    intro σ it x2 k e_x2 hkn hkF hok hc hX ls hl res hR
    rw [L_LC_isAnywhere] at hR
    refine lv_iload_n hx hb d_LC_isAnywhere_13 rfl (lv_at hl 2 rfl) ?_
    refine lv_aload_n hx hb d_LC_isAnywhere_14 rfl (lv_at hl 0 rfl) ?_
    refine xw_get (C := R_LC) (T := F_LC) (N := 9) (r := 0) (i := 0) hx hb hts hi_LC hown hK hX (by decide) rfl rfl 6 (by decide) (hts _ w_139) rfl rfl d_LC_isAnywhere_15 ?_
    refine lv_icmp_ge (tgt := 42) hx hb d_LC_isAnywhere_18 (by decide) (fun c18 => ?_) (fun c18 => ?_)
    · rw [if_pos c18] at hR
      refine lv_iconst (v := 0) hx hb d_LC_isAnywhere_42 (by decide) ?_
      subst hR
      refine W.widen (k := 0) (n := 0) (by decide) (by decide) ?_; exact xr_z hx hb hr hlocks (by rfl) d_LC_isAnywhere_43
    · rw [if_neg c18] at hR
      have hk : k < 16 := o_vc hok e_x2 (by omega) c18
      refine lv_aload_n hx hb d_LC_isAnywhere_21 rfl (lv_at hl 0 rfl) ?_
      refine xw_get (C := R_LC) (T := F_LC) (N := 9) (r := 0) (i := 0) hx hb hts hi_LC hown hK hX (by decide) rfl rfl 4 (by decide) (hts _ w_137) rfl rfl d_LC_isAnywhere_22 ?_
      refine lv_iload_n hx hb d_LC_isAnywhere_25 rfl (lv_at hl 2 rfl) ?_
      refine xw_aald (r := 6) (i := 0) hx hb hK hX (by decide) 4 rfl rfl rfl (j := x2) (o_nI e_x2 hk (by decide)) rfl d_LC_isAnywhere_26 ?_
      refine lv_iload_n hx hb d_LC_isAnywhere_27 rfl (lv_at hl 1 rfl) ?_
      obtain ⟨cB28, hcB28, hoB28, hkB28⟩ := xw_recv (r := 9) (i := x2.toNatClampNeg) hK hX (vp_lt (o_nI e_x2 hk (by decide))) rfl rfl
      refine xc_f (rest := []) (x_invVN (argsL := [.int it]) hx hb hown (xs_M h0 hW0 m_346) (hts _ w_348) (hts _ w_4) (x_code (hts _ w_349)) ⟨by decide, by decide⟩ hcB28 hoB28 hkB28 rfl rfl rfl d_LC_isAnywhere_28) (c_VE_carries h0 σ x2.toNatClampNeg it (vp_lt (o_nI e_x2 hk (by decide))) hc) (xs_cw h0 hW0 m_349) (hts _ w_36) ⟨rfl, rfl, Nat.le_of_ble_eq_true rfl, Nat.le_of_ble_eq_true rfl⟩ (hl.1.trans hml.symm) (by rw [hb]; exact d_LC_isAnywhere_28) (Nat.le_of_ble_eq_true rfl) ⟨Nat.le_of_ble_eq_true rfl, Nat.le_of_ble_eq_true rfl⟩ hX hO ?_
      refine lv_if_eq (tgt := 36) hx hb d_LC_isAnywhere_31 (by decide) (fun c31 => ?_) (fun c31 => ?_)
      · rw [if_pos c31] at hR
        refine lv_iinc (v := (x2 + 1)) (lv' := [(2, .int (x2 + 1)), (0, .ref (xB s0 + XA 0 0)), (1, .int it)]) hx hb d_LC_isAnywhere_36 hl (k := 2) rfl rfl (by decide) rfl (fun ls hl => ?_)
        refine lv_goto (tgt := 13) hx hb d_LC_isAnywhere_39 (by decide) ?_
        exact ih σ it (x2 + 1) (k + 1) (by rw [e_x2]; exact nI_1 k) (by omega) (by omega)  hok hc hX ls (lv_sub hl [1, 2, 0] rfl) res hR
      · rw [if_neg c31] at hR
        refine lv_iconst (v := 1) hx hb d_LC_isAnywhere_34 (by decide) ?_
        subst hR
        refine W.widen (k := 0) (n := 0) (by decide) (by decide) ?_; exact xr_z hx hb hr hlocks (by rfl) d_LC_isAnywhere_35
set_option maxHeartbeats 4000000 in
set_option maxRecDepth 100000 in
theorem c_LC_isAnywhere {l : Launch} {s0 : State} {A0 : Array Value} {D : va_G} {dA : Nat → ClassId} (h0 : XS0 l s0 A0 D dA) (σ : XS) (it : Int32) (hok : XOk σ) (hc : vp_in it 30) : XMet l y_LC_isAnywhere [cw_LC_isAnywhere] rm_LC_isAnywhere (XP D dA s0 σ [.ref (xB s0 + XA 0 0), .int it]) (XQp xv_i (.inl (S_LC_isAnywhere σ it))) 0 0 (fun _ => False) := by
  refine XMet.ofW (cc := b_LC_isAnywhere) (maxL := 3) (ret := (some .boolean)) (by decide) rfl ?_
  intro p e s m args below meth c s₁ Bd hml hvA
  obtain ⟨rfl, hX, hO⟩ := hvA
  have hx := Bd.exec
  have hb := Bd.bytes
  have hr := Bd.returns
  have hown : s.vm.findClass "LoadChecks" = some m.cls := findClass_of_methodNamed Bd.named
  have hlocks := Bd.notSynchronized
  have hnt : c.exceptionTable.isEmpty = true := Bd.noHandlers (atoms_spec (ws := [cw_LC_isAnywhere]) Bd.pre _ List.mem_cons_self)
  have hW0 := hO.1
  have hts := xs_w (args := ([.ref (xB s0 + XA 0 0), .int it] : List Value).toArray) h0 hW0
  have hK := xs_K h0 hW0
  have hl := lv_entry ([.ref (xB s0 + XA 0 0), .int it]) (n := 3) (Nat.le_of_ble_eq_true rfl)
  rw [lg_entry_eq]
  generalize (lg_sl ([.ref (xB s0 + XA 0 0), .int it]) ++ List.replicate (3 - (lg_sl ([.ref (xB s0 + XA 0 0), .int it])).length) Slot.unset).toArray = ls at hl ⊢
  have hl : lv_has ls 3 [(0, .ref (xB s0 + XA 0 0)), (1, .int it)] := hl
  generalize hR : S_LC_isAnywhere σ it = res
  unfold S_LC_isAnywhere at hR
  refine lv_aload_n hx hb d_LC_isAnywhere_0 rfl (lv_at hl 0 rfl) ?_
  refine xw_get (C := R_LC) (T := F_LC) (N := 9) (r := 0) (i := 0) hx hb hts hi_LC hown hK hX (by decide) rfl rfl 2 (by decide) (hts _ w_135) rfl rfl d_LC_isAnywhere_1 ?_
  refine lv_iload_n hx hb d_LC_isAnywhere_4 rfl (lv_at hl 1 rfl) ?_
  refine xw_iald (r := 3) (i := 0) hx hb hK hX (by decide) 0 rfl rfl (j := it) hc d_LC_isAnywhere_5 ?_
  refine lv_if_le (tgt := 11) hx hb d_LC_isAnywhere_6 (by decide) (fun c6 => ?_) (fun c6 => ?_)
  · rw [if_pos c6] at hR
    refine lv_iconst (v := 0) hx hb d_LC_isAnywhere_11 (by decide) ?_
    refine lv_istore_n (lv' := [(2, .int (0 : Int32)), (0, .ref (xB s0 + XA 0 0)), (1, .int it)]) hx hb d_LC_isAnywhere_12 rfl hl (by decide) rfl (fun ls hl => ?_)
    exact l_LC_isAnywhere h0 hx hb hr hml hown hlocks hnt hO 17 σ it (0 : Int32) 0 nI_0.symm rfl (by decide)  hok hc hX ls (lv_sub hl [1, 2, 0] rfl) res hR
  · rw [if_neg c6] at hR
    refine lv_iconst (v := 1) hx hb d_LC_isAnywhere_9 (by decide) ?_
    subst hR
    refine W.widen (k := 0) (n := 0) (by decide) (by decide) ?_; exact xr_z hx hb hr hlocks (by rfl) d_LC_isAnywhere_10

abbrev rm_LC_commonDivisor : Room := { frames := 1, cells := 0, slots := 0, locals := 23 }
def L_LC_commonDivisor : Nat → XS → Int64 → Int64 → Int32 → Int64
  | 0, _, _, _, _ => default
  | n + 1, σ, a, b, x8 => (if (200 : Int32) ≤ x8 then (if (1 : Int64) < a then a else (1 : Int64)) else (if (lg_cmp b (0 : Int64)) = 0 then (if (1 : Int64) < a then a else (1 : Int64)) else (L_LC_commonDivisor n σ b (a - a / b * b) (x8 + 1))))
def S_LC_commonDivisor (σ : XS) (up : Int64) (lo : Int64) : Int64 := (L_LC_commonDivisor 201 σ (if 0 < up then up else -up) lo (0 : Int32))
set_option maxHeartbeats 4000000 in
set_option maxRecDepth 100000 in
theorem l_LC_commonDivisor {l : Launch} {s0 : State} {A0 : Array Value} {D : va_G} {dA : Nat → ClassId} (h0 : XS0 l s0 A0 D dA) {p : Program} {e : Env} {s : State} {m : MethodId} {args : Array Value} {below : List Frame} {meth : Method} {c : Code} (hx : p.tables.exec = Jvm.exec) (hb : c.code = b_LC_commonDivisor) (hr : meth.sig.returnType = (some .long)) (hml : c.maxLocals = 11) (hown : s.vm.findClass "LoadChecks" = some m.cls) (hlocks : meth.locks = false) (hnt : c.exceptionTable.isEmpty = true) (hO : XO s0 s s.heap) :
    ∀ (n : Nat) (σ : XS) (a : Int64) (b : Int64) (x8 : Int32) (k : Nat), x8 = nI k → k + n = 201 → k < 201 → XWs D dA s0 σ s.heap → ∀ (ls : Array Slot), lv_has ls 11 [(4, .long a), (6, .long b), (8, .int x8)] → ∀ res, L_LC_commonDivisor n σ a b x8 = res →
    W p l e rm_LC_commonDivisor s m args below meth c s.heap [] 0 0 (XMQ below (XQp xv_l (.inl res)) args s 0 0 (fun _ => False)) (F0 m 12 ls []) := by
  have hW0 := hO.1
  have hts := xs_w (args := args) h0 hW0
  have hK := xs_K h0 hW0
  intro n
  induction n with
  | zero =>
    intro σ a b x8 k e1 h2 h3
    exact absurd h2 (by omega)
  | succ n ih =>
    intro σ a b x8 k e_x8 hkn hkF  hX ls hl res hR
    rw [L_LC_commonDivisor] at hR
    refine lv_iload hx hb d_LC_commonDivisor_12 (lv_at hl 2 rfl) ?_
    refine lv_sipush (v := 200) hx hb d_LC_commonDivisor_14 (by decide) ?_
    refine lv_icmp_ge (tgt := 48) hx hb d_LC_commonDivisor_17 (by decide) (fun c17 => ?_) (fun c17 => ?_)
    · rw [if_pos c17] at hR
      refine lv_lload hx hb d_LC_commonDivisor_48 (lv_at hl 0 rfl) ?_
      refine lv_lconst (v := 1) hx hb d_LC_commonDivisor_50 (by decide) ?_
      refine va_mmax_long hx hb (hml.trans hl.1.symm) hown (hts _ w_556) (hts _ w_557) (hts _ w_46) (hts _ w_558) (Nat.le_of_ble_eq_true rfl) (Nat.le_of_ble_eq_true rfl) (Nat.le_of_ble_eq_true rfl) (Nat.le_of_ble_eq_true rfl) d_LC_commonDivisor_51 ?_
      subst hR
      refine W.widen (k := 0) (n := 0) (by decide) (by decide) ?_; exact xr_l hx hb hr hlocks d_LC_commonDivisor_54
    · rw [if_neg c17] at hR
      have hk : k < 200 := x_klt (b := 200) rfl (by decide) (by omega) e_x8 c17
      refine lv_lload hx hb d_LC_commonDivisor_20 (lv_at hl 1 rfl) ?_
      refine lv_lconst (v := 0) hx hb d_LC_commonDivisor_22 (by decide) ?_
      refine W.lcmp hx hb d_LC_commonDivisor_23 ?_
      refine lv_if_eq (tgt := 48) hx hb d_LC_commonDivisor_24 (by decide) (fun c24 => ?_) (fun c24 => ?_)
      · rw [if_pos c24] at hR
        refine lv_lload hx hb d_LC_commonDivisor_48 (lv_at hl 0 rfl) ?_
        refine lv_lconst (v := 1) hx hb d_LC_commonDivisor_50 (by decide) ?_
        refine va_mmax_long hx hb (hml.trans hl.1.symm) hown (hts _ w_556) (hts _ w_557) (hts _ w_46) (hts _ w_558) (Nat.le_of_ble_eq_true rfl) (Nat.le_of_ble_eq_true rfl) (Nat.le_of_ble_eq_true rfl) (Nat.le_of_ble_eq_true rfl) d_LC_commonDivisor_51 ?_
        subst hR
        refine W.widen (k := 0) (n := 0) (by decide) (by decide) ?_; exact xr_l hx hb hr hlocks d_LC_commonDivisor_54
      · rw [if_neg c24] at hR
        refine lv_lload hx hb d_LC_commonDivisor_27 (lv_at hl 0 rfl) ?_
        refine lv_lload hx hb d_LC_commonDivisor_29 (lv_at hl 1 rfl) ?_
        refine lv_lrem hx hb d_LC_commonDivisor_31 (o_l0 c24) ?_
        refine lv_lstore (lv' := [(9, .long (a - a / b * b)), (4, .long a), (6, .long b), (8, .int x8)]) hx hb d_LC_commonDivisor_32 hl (by decide) rfl (fun ls hl => ?_)
        refine lv_lload hx hb d_LC_commonDivisor_34 (lv_at hl 2 rfl) ?_
        refine lv_lstore (lv' := [(4, .long b), (9, .long (a - a / b * b)), (6, .long b), (8, .int x8)]) hx hb d_LC_commonDivisor_36 hl (by decide) rfl (fun ls hl => ?_)
        refine lv_lload hx hb d_LC_commonDivisor_38 (lv_at hl 1 rfl) ?_
        refine lv_lstore (lv' := [(6, .long (a - a / b * b)), (4, .long b), (9, .long (a - a / b * b)), (8, .int x8)]) hx hb d_LC_commonDivisor_40 hl (by decide) rfl (fun ls hl => ?_)
        refine lv_iinc (v := (x8 + 1)) (lv' := [(8, .int (x8 + 1)), (6, .long (a - a / b * b)), (4, .long b), (9, .long (a - a / b * b))]) hx hb d_LC_commonDivisor_42 hl (k := 3) rfl rfl (by decide) rfl (fun ls hl => ?_)
        refine lv_goto (tgt := 12) hx hb d_LC_commonDivisor_45 (by decide) ?_
        exact ih σ b (a - a / b * b) (x8 + 1) (k + 1) (by rw [e_x8]; exact nI_1 k) (by omega) (by omega)   hX ls (lv_sub hl [2, 1, 0] rfl) res hR
set_option maxHeartbeats 4000000 in
set_option maxRecDepth 100000 in
theorem c_LC_commonDivisor {l : Launch} {s0 : State} {A0 : Array Value} {D : va_G} {dA : Nat → ClassId} (h0 : XS0 l s0 A0 D dA) (σ : XS) (up : Int64) (lo : Int64)  : XMet l y_LC_commonDivisor [cw_LC_commonDivisor] rm_LC_commonDivisor (XP D dA s0 σ [.long up, .long lo]) (XQp xv_l (.inl (S_LC_commonDivisor σ up lo))) 0 0 (fun _ => False) := by
  refine XMet.ofW (cc := b_LC_commonDivisor) (maxL := 11) (ret := (some .long)) (by decide) rfl ?_
  intro p e s m args below meth c s₁ Bd hml hvA
  obtain ⟨rfl, hX, hO⟩ := hvA
  have hx := Bd.exec
  have hb := Bd.bytes
  have hr := Bd.returns
  have hown : s.vm.findClass "LoadChecks" = some m.cls := findClass_of_methodNamed Bd.named
  have hlocks := Bd.notSynchronized
  have hnt : c.exceptionTable.isEmpty = true := Bd.noHandlers (atoms_spec (ws := [cw_LC_commonDivisor]) Bd.pre _ List.mem_cons_self)
  have hW0 := hO.1
  have hts := xs_w (args := ([.long up, .long lo] : List Value).toArray) h0 hW0
  have hK := xs_K h0 hW0
  have hl := lv_entry ([.long up, .long lo]) (n := 11) (Nat.le_of_ble_eq_true rfl)
  rw [lg_entry_eq]
  generalize (lg_sl ([.long up, .long lo]) ++ List.replicate (11 - (lg_sl ([.long up, .long lo])).length) Slot.unset).toArray = ls at hl ⊢
  have hl : lv_has ls 11 [(0, .long up), (2, .long lo)] := hl
  generalize hR : S_LC_commonDivisor σ up lo = res
  unfold S_LC_commonDivisor at hR
  refine lv_lload_n hx hb d_LC_commonDivisor_0 rfl (lv_at hl 0 rfl) ?_
  refine va_mabs_long hx hb (hml.trans hl.1.symm) hown (hts _ w_553) (hts _ w_554) (hts _ w_46) (hts _ w_555) (Nat.le_of_ble_eq_true rfl) (Nat.le_of_ble_eq_true rfl) (Nat.le_of_ble_eq_true rfl) (Nat.le_of_ble_eq_true rfl) d_LC_commonDivisor_1 ?_
  refine lv_lstore (lv' := [(4, .long (if 0 < up then up else -up)), (0, .long up), (2, .long lo)]) hx hb d_LC_commonDivisor_4 hl (by decide) rfl (fun ls hl => ?_)
  refine lv_lload_n hx hb d_LC_commonDivisor_6 rfl (lv_at hl 2 rfl) ?_
  refine lv_lstore (lv' := [(6, .long lo), (4, .long (if 0 < up then up else -up)), (0, .long up), (2, .long lo)]) hx hb d_LC_commonDivisor_7 hl (by decide) rfl (fun ls hl => ?_)
  refine lv_iconst (v := 0) hx hb d_LC_commonDivisor_9 (by decide) ?_
  refine lv_istore (lv' := [(8, .int (0 : Int32)), (6, .long lo), (4, .long (if 0 < up then up else -up)), (0, .long up), (2, .long lo)]) hx hb d_LC_commonDivisor_10 hl (by decide) rfl (fun ls hl => ?_)
  exact l_LC_commonDivisor h0 hx hb hr hml hown hlocks hnt hO 201 σ (if 0 < up then up else -up) lo (0 : Int32) 0 nI_0.symm rfl (by decide)   hX ls (lv_sub hl [2, 1, 0] rfl) res hR
