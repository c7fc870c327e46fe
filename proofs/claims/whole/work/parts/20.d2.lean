abbrev rm_MO_isTooMuch : Room := { frames := 3, cells := 0, slots := 0, locals := 68 }
def S_MO_isTooMuch (σ : XS) (v : Int32) (cu : Int32) (it : Int32) (n : Int32) : Int32 × XS := (if (S_MO_isBeyond (xuI σ 28 0 ((((240 : Int32) * v) + ((30 : Int32) * cu)) + it).toNatClampNeg ((σ.1 28 0 ((((240 : Int32) * v) + ((30 : Int32) * cu)) + it).toNatClampNeg) + n)) v (0 : Int32)) = 0 then (if (S_MO_isBeyond (xuI σ 28 0 ((((240 : Int32) * v) + ((30 : Int32) * cu)) + it).toNatClampNeg ((σ.1 28 0 ((((240 : Int32) * v) + ((30 : Int32) * cu)) + it).toNatClampNeg) + n)) v (1 : Int32)) = 0 then ((0 : Int32), (xuI (xuI σ 28 0 ((((240 : Int32) * v) + ((30 : Int32) * cu)) + it).toNatClampNeg ((σ.1 28 0 ((((240 : Int32) * v) + ((30 : Int32) * cu)) + it).toNatClampNeg) + n)) 28 0 ((((240 : Int32) * v) + ((30 : Int32) * cu)) + it).toNatClampNeg (((xuI σ 28 0 ((((240 : Int32) * v) + ((30 : Int32) * cu)) + it).toNatClampNeg ((σ.1 28 0 ((((240 : Int32) * v) + ((30 : Int32) * cu)) + it).toNatClampNeg) + n)).1 28 0 ((((240 : Int32) * v) + ((30 : Int32) * cu)) + it).toNatClampNeg) - n))) else (if (lg_cmp (S_MO_bears (xuI σ 28 0 ((((240 : Int32) * v) + ((30 : Int32) * cu)) + it).toNatClampNeg ((σ.1 28 0 ((((240 : Int32) * v) + ((30 : Int32) * cu)) + it).toNatClampNeg) + n)) v (1 : Int32)) (S_MO_bears σ v (1 : Int32))) ≤ 0 then ((0 : Int32), (xuI (xuI σ 28 0 ((((240 : Int32) * v) + ((30 : Int32) * cu)) + it).toNatClampNeg ((σ.1 28 0 ((((240 : Int32) * v) + ((30 : Int32) * cu)) + it).toNatClampNeg) + n)) 28 0 ((((240 : Int32) * v) + ((30 : Int32) * cu)) + it).toNatClampNeg (((xuI σ 28 0 ((((240 : Int32) * v) + ((30 : Int32) * cu)) + it).toNatClampNeg ((σ.1 28 0 ((((240 : Int32) * v) + ((30 : Int32) * cu)) + it).toNatClampNeg) + n)).1 28 0 ((((240 : Int32) * v) + ((30 : Int32) * cu)) + it).toNatClampNeg) - n))) else ((1 : Int32), (xuI (xuI σ 28 0 ((((240 : Int32) * v) + ((30 : Int32) * cu)) + it).toNatClampNeg ((σ.1 28 0 ((((240 : Int32) * v) + ((30 : Int32) * cu)) + it).toNatClampNeg) + n)) 28 0 ((((240 : Int32) * v) + ((30 : Int32) * cu)) + it).toNatClampNeg (((xuI σ 28 0 ((((240 : Int32) * v) + ((30 : Int32) * cu)) + it).toNatClampNeg ((σ.1 28 0 ((((240 : Int32) * v) + ((30 : Int32) * cu)) + it).toNatClampNeg) + n)).1 28 0 ((((240 : Int32) * v) + ((30 : Int32) * cu)) + it).toNatClampNeg) - n))))) else (if 0 < (lg_cmp (S_MO_bears (xuI σ 28 0 ((((240 : Int32) * v) + ((30 : Int32) * cu)) + it).toNatClampNeg ((σ.1 28 0 ((((240 : Int32) * v) + ((30 : Int32) * cu)) + it).toNatClampNeg) + n)) v (0 : Int32)) (S_MO_bears σ v (0 : Int32))) then ((1 : Int32), (xuI (xuI σ 28 0 ((((240 : Int32) * v) + ((30 : Int32) * cu)) + it).toNatClampNeg ((σ.1 28 0 ((((240 : Int32) * v) + ((30 : Int32) * cu)) + it).toNatClampNeg) + n)) 28 0 ((((240 : Int32) * v) + ((30 : Int32) * cu)) + it).toNatClampNeg (((xuI σ 28 0 ((((240 : Int32) * v) + ((30 : Int32) * cu)) + it).toNatClampNeg ((σ.1 28 0 ((((240 : Int32) * v) + ((30 : Int32) * cu)) + it).toNatClampNeg) + n)).1 28 0 ((((240 : Int32) * v) + ((30 : Int32) * cu)) + it).toNatClampNeg) - n))) else (if (S_MO_isBeyond (xuI σ 28 0 ((((240 : Int32) * v) + ((30 : Int32) * cu)) + it).toNatClampNeg ((σ.1 28 0 ((((240 : Int32) * v) + ((30 : Int32) * cu)) + it).toNatClampNeg) + n)) v (1 : Int32)) = 0 then ((0 : Int32), (xuI (xuI σ 28 0 ((((240 : Int32) * v) + ((30 : Int32) * cu)) + it).toNatClampNeg ((σ.1 28 0 ((((240 : Int32) * v) + ((30 : Int32) * cu)) + it).toNatClampNeg) + n)) 28 0 ((((240 : Int32) * v) + ((30 : Int32) * cu)) + it).toNatClampNeg (((xuI σ 28 0 ((((240 : Int32) * v) + ((30 : Int32) * cu)) + it).toNatClampNeg ((σ.1 28 0 ((((240 : Int32) * v) + ((30 : Int32) * cu)) + it).toNatClampNeg) + n)).1 28 0 ((((240 : Int32) * v) + ((30 : Int32) * cu)) + it).toNatClampNeg) - n))) else (if (lg_cmp (S_MO_bears (xuI σ 28 0 ((((240 : Int32) * v) + ((30 : Int32) * cu)) + it).toNatClampNeg ((σ.1 28 0 ((((240 : Int32) * v) + ((30 : Int32) * cu)) + it).toNatClampNeg) + n)) v (1 : Int32)) (S_MO_bears σ v (1 : Int32))) ≤ 0 then ((0 : Int32), (xuI (xuI σ 28 0 ((((240 : Int32) * v) + ((30 : Int32) * cu)) + it).toNatClampNeg ((σ.1 28 0 ((((240 : Int32) * v) + ((30 : Int32) * cu)) + it).toNatClampNeg) + n)) 28 0 ((((240 : Int32) * v) + ((30 : Int32) * cu)) + it).toNatClampNeg (((xuI σ 28 0 ((((240 : Int32) * v) + ((30 : Int32) * cu)) + it).toNatClampNeg ((σ.1 28 0 ((((240 : Int32) * v) + ((30 : Int32) * cu)) + it).toNatClampNeg) + n)).1 28 0 ((((240 : Int32) * v) + ((30 : Int32) * cu)) + it).toNatClampNeg) - n))) else ((1 : Int32), (xuI (xuI σ 28 0 ((((240 : Int32) * v) + ((30 : Int32) * cu)) + it).toNatClampNeg ((σ.1 28 0 ((((240 : Int32) * v) + ((30 : Int32) * cu)) + it).toNatClampNeg) + n)) 28 0 ((((240 : Int32) * v) + ((30 : Int32) * cu)) + it).toNatClampNeg (((xuI σ 28 0 ((((240 : Int32) * v) + ((30 : Int32) * cu)) + it).toNatClampNeg ((σ.1 28 0 ((((240 : Int32) * v) + ((30 : Int32) * cu)) + it).toNatClampNeg) + n)).1 28 0 ((((240 : Int32) * v) + ((30 : Int32) * cu)) + it).toNatClampNeg) - n)))))))
set_option maxHeartbeats 4000000 in
set_option maxRecDepth 100000 in
theorem c_MO_isTooMuch {l : Launch} {s0 : State} {A0 : Array Value} {D : va_G} {dA : Nat → ClassId} (h0 : XS0 l s0 A0 D dA) (σ : XS) (v : Int32) (cu : Int32) (it : Int32) (n : Int32) (hv : vp_in v 16) (hc : vp_in cu 8) (hi : vp_in it 30) : XMet l y_MO_isTooMuch [cw_MO_isTooMuch] rm_MO_isTooMuch (XP D dA s0 σ [.ref (xB s0 + XA 15 0), .int v, .int cu, .int it, .int n]) (XQs D dA s0 xv_i (.inl (S_MO_isTooMuch σ v cu it n))) 0 0 (xAm s0) := by
  refine XMet.ofW (cc := b_MO_isTooMuch) (maxL := 10) (ret := (some .boolean)) (by decide) rfl ?_
  intro p e s m args below meth c s₁ Bd hml hvA
  obtain ⟨rfl, hX, hO⟩ := hvA
  have hx := Bd.exec
  have hb := Bd.bytes
  have hr := Bd.returns
  have hown : s.vm.findClass "LoadChecksModel" = some m.cls := findClass_of_methodNamed Bd.named
  have hlocks := Bd.notSynchronized
  have hnt : c.exceptionTable.isEmpty = true := Bd.noHandlers (atoms_spec (ws := [cw_MO_isTooMuch]) Bd.pre _ List.mem_cons_self)
  have hW0 := hO.1
  have hts := xs_w (args := ([.ref (xB s0 + XA 15 0), .int v, .int cu, .int it, .int n] : List Value).toArray) h0 hW0
  have hK := xs_K h0 hW0
  have hS := xo_S0 hO
  have hl := lv_entry ([.ref (xB s0 + XA 15 0), .int v, .int cu, .int it, .int n]) (n := 10) (Nat.le_of_ble_eq_true rfl)
  rw [lg_entry_eq]
  generalize (lg_sl ([.ref (xB s0 + XA 15 0), .int v, .int cu, .int it, .int n]) ++ List.replicate (10 - (lg_sl ([.ref (xB s0 + XA 15 0), .int v, .int cu, .int it, .int n])).length) Slot.unset).toArray = ls at hl ⊢
  have hl : lv_has ls 10 [(0, .ref (xB s0 + XA 15 0)), (1, .int v), (2, .int cu), (3, .int it), (4, .int n)] := hl
  generalize hR : S_MO_isTooMuch σ v cu it n = res
  unfold S_MO_isTooMuch at hR
  refine lv_aload_n hx hb d_MO_isTooMuch_0 rfl (lv_at hl 0 rfl) ?_
  refine lv_iload_n hx hb d_MO_isTooMuch_1 rfl (lv_at hl 1 rfl) ?_
  refine lv_iconst (v := 0) hx hb d_MO_isTooMuch_2 (by decide) ?_
  obtain ⟨cB3, hcB3, hoB3, hkB3⟩ := xw_recv (r := 15) (i := 0) hK hX (by decide) rfl rfl
  refine xc_f (rest := []) (x_invV (argsL := [.int v, .int (0 : Int32)]) hx hb hown (hts _ w_726) (hts _ w_728) (hts _ w_26) (x_code (hts _ w_729)) ⟨by decide, by decide⟩ hcB3 hoB3 hkB3 rfl rfl rfl d_MO_isTooMuch_3) (c_MO_bears h0 σ v (0 : Int32) hv) (xs_cw h0 hW0 m_729) (hts _ w_38) ⟨rfl, rfl, Nat.le_of_ble_eq_true rfl, Nat.le_of_ble_eq_true rfl⟩ (hl.1.trans hml.symm) (by rw [hb]; exact d_MO_isTooMuch_3) (Nat.le_of_ble_eq_true rfl) ⟨Nat.le_of_ble_eq_true rfl, Nat.le_of_ble_eq_true rfl⟩ hX ⟨hW0, xo_S hS⟩ ?_
  refine lv_lstore (lv' := [(5, .long (S_MO_bears σ v (0 : Int32))), (0, .ref (xB s0 + XA 15 0)), (1, .int v), (2, .int cu), (3, .int it), (4, .int n)]) hx hb d_MO_isTooMuch_6 hl (by decide) rfl (fun ls hl => ?_)
  refine lv_aload_n hx hb d_MO_isTooMuch_8 rfl (lv_at hl 1 rfl) ?_
  refine lv_iload_n hx hb d_MO_isTooMuch_9 rfl (lv_at hl 2 rfl) ?_
  refine lv_iconst (v := 1) hx hb d_MO_isTooMuch_10 (by decide) ?_
  obtain ⟨cB11, hcB11, hoB11, hkB11⟩ := xw_recv (r := 15) (i := 0) hK hX (by decide) rfl rfl
  refine xc_f (rest := []) (x_invV (argsL := [.int v, .int (1 : Int32)]) hx hb hown (hts _ w_726) (hts _ w_728) (hts _ w_26) (x_code (hts _ w_729)) ⟨by decide, by decide⟩ hcB11 hoB11 hkB11 rfl rfl rfl d_MO_isTooMuch_11) (c_MO_bears h0 σ v (1 : Int32) hv) (xs_cw h0 hW0 m_729) (hts _ w_38) ⟨rfl, rfl, Nat.le_of_ble_eq_true rfl, Nat.le_of_ble_eq_true rfl⟩ (hl.1.trans hml.symm) (by rw [hb]; exact d_MO_isTooMuch_11) (Nat.le_of_ble_eq_true rfl) ⟨Nat.le_of_ble_eq_true rfl, Nat.le_of_ble_eq_true rfl⟩ hX ⟨hW0, xo_S hS⟩ ?_
  refine lv_lstore (lv' := [(7, .long (S_MO_bears σ v (1 : Int32))), (5, .long (S_MO_bears σ v (0 : Int32))), (0, .ref (xB s0 + XA 15 0)), (1, .int v), (2, .int cu), (3, .int it), (4, .int n)]) hx hb d_MO_isTooMuch_14 hl (by decide) rfl (fun ls hl => ?_)
  refine lv_aload_n hx hb d_MO_isTooMuch_16 rfl (lv_at hl 2 rfl) ?_
  refine xw_get (C := R_MO) (T := F_MO) (N := 20) (r := 15) (i := 0) hx hb hts hi_MO hown hK hX (by decide) rfl rfl 16 (by decide) (hts _ w_611) rfl rfl d_MO_isTooMuch_17 ?_
  refine lv_sipush (v := 240) hx hb d_MO_isTooMuch_20 (by decide) ?_
  refine lv_iload_n hx hb d_MO_isTooMuch_23 rfl (lv_at hl 3 rfl) ?_
  refine lv_imul hx hb d_MO_isTooMuch_24 ?_
  refine lv_bipush (v := 30) hx hb d_MO_isTooMuch_25 (by decide) ?_
  refine lv_iload_n hx hb d_MO_isTooMuch_27 rfl (lv_at hl 4 rfl) ?_
  refine lv_imul hx hb d_MO_isTooMuch_28 ?_
  refine lv_iadd hx hb d_MO_isTooMuch_29 ?_
  refine lv_iload_n hx hb d_MO_isTooMuch_30 rfl (lv_at hl 5 rfl) ?_
  refine lv_iadd hx hb d_MO_isTooMuch_31 ?_
  refine lv_dup2_11 hx hb d_MO_isTooMuch_32 rfl rfl ?_
  refine xw_iald (r := 28) (i := 0) hx hb hK hX (by decide) 0 rfl rfl (j := ((((240 : Int32) * v) + ((30 : Int32) * cu)) + it)) (o_c3 hv hc hi) d_MO_isTooMuch_33 ?_
  refine lv_iload hx hb d_MO_isTooMuch_34 (lv_at hl 6 rfl) ?_
  refine lv_iadd hx hb d_MO_isTooMuch_36 ?_
  refine xw_iast (r := 28) (i := 0) (ent' := XE dA (xB s0) (xuI σ 28 0 ((((240 : Int32) * v) + ((30 : Int32) * cu)) + it).toNatClampNeg ((σ.1 28 0 ((((240 : Int32) * v) + ((30 : Int32) * cu)) + it).toNatClampNeg) + n))) hx hb hK xInj hX hS (xA_in _ _ _) (by decide) 0 rfl rfl (j := ((((240 : Int32) * v) + ((30 : Int32) * cu)) + it)) (o_c3 hv hc hi) ((xe_uI dA (xB s0) σ 28 0 ((((240 : Int32) * v) + ((30 : Int32) * cu)) + it).toNatClampNeg ((σ.1 28 0 ((((240 : Int32) * v) + ((30 : Int32) * cu)) + it).toNatClampNeg) + n)).trans rfl) (xe_oI dA (xB s0) σ 28 0 ((((240 : Int32) * v) + ((30 : Int32) * cu)) + it).toNatClampNeg ((σ.1 28 0 ((((240 : Int32) * v) + ((30 : Int32) * cu)) + it).toNatClampNeg) + n)) d_MO_isTooMuch_37 (fun H locs hX hS => ?_)
  refine lv_aload_n hx hb d_MO_isTooMuch_38 rfl (lv_at hl 2 rfl) ?_
  refine lv_iload_n hx hb d_MO_isTooMuch_39 rfl (lv_at hl 3 rfl) ?_
  refine lv_iconst (v := 0) hx hb d_MO_isTooMuch_40 (by decide) ?_
  obtain ⟨cB41, hcB41, hoB41, hkB41⟩ := xw_recv (r := 15) (i := 0) hK hX (by decide) rfl rfl
  refine xc_f (rest := []) (x_invV (argsL := [.int v, .int (0 : Int32)]) hx hb hown (hts _ w_738) (hts _ w_740) (hts _ w_29) (x_code (hts _ w_741)) ⟨by decide, by decide⟩ hcB41 hoB41 hkB41 rfl rfl rfl d_MO_isTooMuch_41) (c_MO_isBeyond h0 (xuI σ 28 0 ((((240 : Int32) * v) + ((30 : Int32) * cu)) + it).toNatClampNeg ((σ.1 28 0 ((((240 : Int32) * v) + ((30 : Int32) * cu)) + it).toNatClampNeg) + n)) v (0 : Int32) hv) (xs_cw h0 hW0 m_741) (hts _ w_38) ⟨rfl, rfl, Nat.le_of_ble_eq_true rfl, Nat.le_of_ble_eq_true rfl⟩ (hl.1.trans hml.symm) (by rw [hb]; exact d_MO_isTooMuch_41) (Nat.le_of_ble_eq_true rfl) ⟨Nat.le_of_ble_eq_true rfl, Nat.le_of_ble_eq_true rfl⟩ hX ⟨hW0, xo_S hS⟩ ?_
  refine lv_if_eq (tgt := 59) hx hb d_MO_isTooMuch_44 (by decide) (fun c44 => ?_) (fun c44 => ?_)
  · rw [if_pos c44] at hR
    refine lv_aload_n hx hb d_MO_isTooMuch_59 rfl (lv_at hl 2 rfl) ?_
    refine lv_iload_n hx hb d_MO_isTooMuch_60 rfl (lv_at hl 3 rfl) ?_
    refine lv_iconst (v := 1) hx hb d_MO_isTooMuch_61 (by decide) ?_
    obtain ⟨cB62, hcB62, hoB62, hkB62⟩ := xw_recv (r := 15) (i := 0) hK hX (by decide) rfl rfl
    refine xc_f (rest := []) (x_invV (argsL := [.int v, .int (1 : Int32)]) hx hb hown (hts _ w_738) (hts _ w_740) (hts _ w_29) (x_code (hts _ w_741)) ⟨by decide, by decide⟩ hcB62 hoB62 hkB62 rfl rfl rfl d_MO_isTooMuch_62) (c_MO_isBeyond h0 (xuI σ 28 0 ((((240 : Int32) * v) + ((30 : Int32) * cu)) + it).toNatClampNeg ((σ.1 28 0 ((((240 : Int32) * v) + ((30 : Int32) * cu)) + it).toNatClampNeg) + n)) v (1 : Int32) hv) (xs_cw h0 hW0 m_741) (hts _ w_38) ⟨rfl, rfl, Nat.le_of_ble_eq_true rfl, Nat.le_of_ble_eq_true rfl⟩ (hl.1.trans hml.symm) (by rw [hb]; exact d_MO_isTooMuch_62) (Nat.le_of_ble_eq_true rfl) ⟨Nat.le_of_ble_eq_true rfl, Nat.le_of_ble_eq_true rfl⟩ hX ⟨hW0, xo_S hS⟩ ?_
    refine lv_if_eq (tgt := 84) hx hb d_MO_isTooMuch_65 (by decide) (fun c65 => ?_) (fun c65 => ?_)
    · rw [if_pos c65] at hR
      refine lv_iconst (v := 0) hx hb d_MO_isTooMuch_84 (by decide) ?_
      refine lv_istore (lv' := [(9, .int (0 : Int32)), (7, .long (S_MO_bears σ v (1 : Int32))), (5, .long (S_MO_bears σ v (0 : Int32))), (0, .ref (xB s0 + XA 15 0)), (1, .int v), (2, .int cu), (3, .int it), (4, .int n)]) hx hb d_MO_isTooMuch_85 hl (by decide) rfl (fun ls hl => ?_)
      refine lv_aload_n hx hb d_MO_isTooMuch_87 rfl (lv_at hl 3 rfl) ?_
      refine xw_get (C := R_MO) (T := F_MO) (N := 20) (r := 15) (i := 0) hx hb hts hi_MO hown hK hX (by decide) rfl rfl 16 (by decide) (hts _ w_611) rfl rfl d_MO_isTooMuch_88 ?_
      refine lv_sipush (v := 240) hx hb d_MO_isTooMuch_91 (by decide) ?_
      refine lv_iload_n hx hb d_MO_isTooMuch_94 rfl (lv_at hl 4 rfl) ?_
      refine lv_imul hx hb d_MO_isTooMuch_95 ?_
      refine lv_bipush (v := 30) hx hb d_MO_isTooMuch_96 (by decide) ?_
      refine lv_iload_n hx hb d_MO_isTooMuch_98 rfl (lv_at hl 5 rfl) ?_
      refine lv_imul hx hb d_MO_isTooMuch_99 ?_
      refine lv_iadd hx hb d_MO_isTooMuch_100 ?_
      refine lv_iload_n hx hb d_MO_isTooMuch_101 rfl (lv_at hl 6 rfl) ?_
      refine lv_iadd hx hb d_MO_isTooMuch_102 ?_
      refine lv_dup2_11 hx hb d_MO_isTooMuch_103 rfl rfl ?_
      refine xw_iald (r := 28) (i := 0) hx hb hK hX (by decide) 0 rfl rfl (j := ((((240 : Int32) * v) + ((30 : Int32) * cu)) + it)) (o_c3 hv hc hi) d_MO_isTooMuch_104 ?_
      refine lv_iload hx hb d_MO_isTooMuch_105 (lv_at hl 7 rfl) ?_
      refine lv_isub hx hb d_MO_isTooMuch_107 ?_
      refine xw_iast (r := 28) (i := 0) (ent' := XE dA (xB s0) (xuI (xuI σ 28 0 ((((240 : Int32) * v) + ((30 : Int32) * cu)) + it).toNatClampNeg ((σ.1 28 0 ((((240 : Int32) * v) + ((30 : Int32) * cu)) + it).toNatClampNeg) + n)) 28 0 ((((240 : Int32) * v) + ((30 : Int32) * cu)) + it).toNatClampNeg (((xuI σ 28 0 ((((240 : Int32) * v) + ((30 : Int32) * cu)) + it).toNatClampNeg ((σ.1 28 0 ((((240 : Int32) * v) + ((30 : Int32) * cu)) + it).toNatClampNeg) + n)).1 28 0 ((((240 : Int32) * v) + ((30 : Int32) * cu)) + it).toNatClampNeg) - n))) hx hb hK xInj hX hS (xA_in _ _ _) (by decide) 0 rfl rfl (j := ((((240 : Int32) * v) + ((30 : Int32) * cu)) + it)) (o_c3 hv hc hi) ((xe_uI dA (xB s0) (xuI σ 28 0 ((((240 : Int32) * v) + ((30 : Int32) * cu)) + it).toNatClampNeg ((σ.1 28 0 ((((240 : Int32) * v) + ((30 : Int32) * cu)) + it).toNatClampNeg) + n)) 28 0 ((((240 : Int32) * v) + ((30 : Int32) * cu)) + it).toNatClampNeg (((xuI σ 28 0 ((((240 : Int32) * v) + ((30 : Int32) * cu)) + it).toNatClampNeg ((σ.1 28 0 ((((240 : Int32) * v) + ((30 : Int32) * cu)) + it).toNatClampNeg) + n)).1 28 0 ((((240 : Int32) * v) + ((30 : Int32) * cu)) + it).toNatClampNeg) - n)).trans rfl) (xe_oI dA (xB s0) (xuI σ 28 0 ((((240 : Int32) * v) + ((30 : Int32) * cu)) + it).toNatClampNeg ((σ.1 28 0 ((((240 : Int32) * v) + ((30 : Int32) * cu)) + it).toNatClampNeg) + n)) 28 0 ((((240 : Int32) * v) + ((30 : Int32) * cu)) + it).toNatClampNeg (((xuI σ 28 0 ((((240 : Int32) * v) + ((30 : Int32) * cu)) + it).toNatClampNeg ((σ.1 28 0 ((((240 : Int32) * v) + ((30 : Int32) * cu)) + it).toNatClampNeg) + n)).1 28 0 ((((240 : Int32) * v) + ((30 : Int32) * cu)) + it).toNatClampNeg) - n)) d_MO_isTooMuch_108 (fun H locs hX hS => ?_)
      refine lv_iload hx hb d_MO_isTooMuch_109 (lv_at hl 0 rfl) ?_
      subst hR
      refine W.widen (k := 0) (n := 0) (by decide) (by decide) ?_; exact xs_z hx hb hr hlocks (by rfl) hX hS d_MO_isTooMuch_111
    · rw [if_neg c65] at hR
      refine lv_aload_n hx hb d_MO_isTooMuch_68 rfl (lv_at hl 2 rfl) ?_
      refine lv_iload_n hx hb d_MO_isTooMuch_69 rfl (lv_at hl 3 rfl) ?_
      refine lv_iconst (v := 1) hx hb d_MO_isTooMuch_70 (by decide) ?_
      obtain ⟨cB71, hcB71, hoB71, hkB71⟩ := xw_recv (r := 15) (i := 0) hK hX (by decide) rfl rfl
      refine xc_f (rest := []) (x_invV (argsL := [.int v, .int (1 : Int32)]) hx hb hown (hts _ w_726) (hts _ w_728) (hts _ w_26) (x_code (hts _ w_729)) ⟨by decide, by decide⟩ hcB71 hoB71 hkB71 rfl rfl rfl d_MO_isTooMuch_71) (c_MO_bears h0 (xuI σ 28 0 ((((240 : Int32) * v) + ((30 : Int32) * cu)) + it).toNatClampNeg ((σ.1 28 0 ((((240 : Int32) * v) + ((30 : Int32) * cu)) + it).toNatClampNeg) + n)) v (1 : Int32) hv) (xs_cw h0 hW0 m_729) (hts _ w_38) ⟨rfl, rfl, Nat.le_of_ble_eq_true rfl, Nat.le_of_ble_eq_true rfl⟩ (hl.1.trans hml.symm) (by rw [hb]; exact d_MO_isTooMuch_71) (Nat.le_of_ble_eq_true rfl) ⟨Nat.le_of_ble_eq_true rfl, Nat.le_of_ble_eq_true rfl⟩ hX ⟨hW0, xo_S hS⟩ ?_
      refine lv_lload hx hb d_MO_isTooMuch_74 (lv_at hl 0 rfl) ?_
      refine W.lcmp hx hb d_MO_isTooMuch_76 ?_
      refine lv_if_le (tgt := 84) hx hb d_MO_isTooMuch_77 (by decide) (fun c77 => ?_) (fun c77 => ?_)
      · rw [if_pos c77] at hR
        refine lv_iconst (v := 0) hx hb d_MO_isTooMuch_84 (by decide) ?_
        refine lv_istore (lv' := [(9, .int (0 : Int32)), (7, .long (S_MO_bears σ v (1 : Int32))), (5, .long (S_MO_bears σ v (0 : Int32))), (0, .ref (xB s0 + XA 15 0)), (1, .int v), (2, .int cu), (3, .int it), (4, .int n)]) hx hb d_MO_isTooMuch_85 hl (by decide) rfl (fun ls hl => ?_)
        refine lv_aload_n hx hb d_MO_isTooMuch_87 rfl (lv_at hl 3 rfl) ?_
        refine xw_get (C := R_MO) (T := F_MO) (N := 20) (r := 15) (i := 0) hx hb hts hi_MO hown hK hX (by decide) rfl rfl 16 (by decide) (hts _ w_611) rfl rfl d_MO_isTooMuch_88 ?_
        refine lv_sipush (v := 240) hx hb d_MO_isTooMuch_91 (by decide) ?_
        refine lv_iload_n hx hb d_MO_isTooMuch_94 rfl (lv_at hl 4 rfl) ?_
        refine lv_imul hx hb d_MO_isTooMuch_95 ?_
        refine lv_bipush (v := 30) hx hb d_MO_isTooMuch_96 (by decide) ?_
        refine lv_iload_n hx hb d_MO_isTooMuch_98 rfl (lv_at hl 5 rfl) ?_
        refine lv_imul hx hb d_MO_isTooMuch_99 ?_
        refine lv_iadd hx hb d_MO_isTooMuch_100 ?_
        refine lv_iload_n hx hb d_MO_isTooMuch_101 rfl (lv_at hl 6 rfl) ?_
        refine lv_iadd hx hb d_MO_isTooMuch_102 ?_
        refine lv_dup2_11 hx hb d_MO_isTooMuch_103 rfl rfl ?_
        refine xw_iald (r := 28) (i := 0) hx hb hK hX (by decide) 0 rfl rfl (j := ((((240 : Int32) * v) + ((30 : Int32) * cu)) + it)) (o_c3 hv hc hi) d_MO_isTooMuch_104 ?_
        refine lv_iload hx hb d_MO_isTooMuch_105 (lv_at hl 7 rfl) ?_
        refine lv_isub hx hb d_MO_isTooMuch_107 ?_
        refine xw_iast (r := 28) (i := 0) (ent' := XE dA (xB s0) (xuI (xuI σ 28 0 ((((240 : Int32) * v) + ((30 : Int32) * cu)) + it).toNatClampNeg ((σ.1 28 0 ((((240 : Int32) * v) + ((30 : Int32) * cu)) + it).toNatClampNeg) + n)) 28 0 ((((240 : Int32) * v) + ((30 : Int32) * cu)) + it).toNatClampNeg (((xuI σ 28 0 ((((240 : Int32) * v) + ((30 : Int32) * cu)) + it).toNatClampNeg ((σ.1 28 0 ((((240 : Int32) * v) + ((30 : Int32) * cu)) + it).toNatClampNeg) + n)).1 28 0 ((((240 : Int32) * v) + ((30 : Int32) * cu)) + it).toNatClampNeg) - n))) hx hb hK xInj hX hS (xA_in _ _ _) (by decide) 0 rfl rfl (j := ((((240 : Int32) * v) + ((30 : Int32) * cu)) + it)) (o_c3 hv hc hi) ((xe_uI dA (xB s0) (xuI σ 28 0 ((((240 : Int32) * v) + ((30 : Int32) * cu)) + it).toNatClampNeg ((σ.1 28 0 ((((240 : Int32) * v) + ((30 : Int32) * cu)) + it).toNatClampNeg) + n)) 28 0 ((((240 : Int32) * v) + ((30 : Int32) * cu)) + it).toNatClampNeg (((xuI σ 28 0 ((((240 : Int32) * v) + ((30 : Int32) * cu)) + it).toNatClampNeg ((σ.1 28 0 ((((240 : Int32) * v) + ((30 : Int32) * cu)) + it).toNatClampNeg) + n)).1 28 0 ((((240 : Int32) * v) + ((30 : Int32) * cu)) + it).toNatClampNeg) - n)).trans rfl) (xe_oI dA (xB s0) (xuI σ 28 0 ((((240 : Int32) * v) + ((30 : Int32) * cu)) + it).toNatClampNeg ((σ.1 28 0 ((((240 : Int32) * v) + ((30 : Int32) * cu)) + it).toNatClampNeg) + n)) 28 0 ((((240 : Int32) * v) + ((30 : Int32) * cu)) + it).toNatClampNeg (((xuI σ 28 0 ((((240 : Int32) * v) + ((30 : Int32) * cu)) + it).toNatClampNeg ((σ.1 28 0 ((((240 : Int32) * v) + ((30 : Int32) * cu)) + it).toNatClampNeg) + n)).1 28 0 ((((240 : Int32) * v) + ((30 : Int32) * cu)) + it).toNatClampNeg) - n)) d_MO_isTooMuch_108 (fun H locs hX hS => ?_)
        refine lv_iload hx hb d_MO_isTooMuch_109 (lv_at hl 0 rfl) ?_
        subst hR
        refine W.widen (k := 0) (n := 0) (by decide) (by decide) ?_; exact xs_z hx hb hr hlocks (by rfl) hX hS d_MO_isTooMuch_111
      · rw [if_neg c77] at hR
        refine lv_iconst (v := 1) hx hb d_MO_isTooMuch_80 (by decide) ?_
        refine lv_goto (tgt := 85) hx hb d_MO_isTooMuch_81 (by decide) ?_
        refine lv_istore (lv' := [(9, .int (1 : Int32)), (7, .long (S_MO_bears σ v (1 : Int32))), (5, .long (S_MO_bears σ v (0 : Int32))), (0, .ref (xB s0 + XA 15 0)), (1, .int v), (2, .int cu), (3, .int it), (4, .int n)]) hx hb d_MO_isTooMuch_85 hl (by decide) rfl (fun ls hl => ?_)
        refine lv_aload_n hx hb d_MO_isTooMuch_87 rfl (lv_at hl 3 rfl) ?_
        refine xw_get (C := R_MO) (T := F_MO) (N := 20) (r := 15) (i := 0) hx hb hts hi_MO hown hK hX (by decide) rfl rfl 16 (by decide) (hts _ w_611) rfl rfl d_MO_isTooMuch_88 ?_
        refine lv_sipush (v := 240) hx hb d_MO_isTooMuch_91 (by decide) ?_
        refine lv_iload_n hx hb d_MO_isTooMuch_94 rfl (lv_at hl 4 rfl) ?_
        refine lv_imul hx hb d_MO_isTooMuch_95 ?_
        refine lv_bipush (v := 30) hx hb d_MO_isTooMuch_96 (by decide) ?_
        refine lv_iload_n hx hb d_MO_isTooMuch_98 rfl (lv_at hl 5 rfl) ?_
        refine lv_imul hx hb d_MO_isTooMuch_99 ?_
        refine lv_iadd hx hb d_MO_isTooMuch_100 ?_
        refine lv_iload_n hx hb d_MO_isTooMuch_101 rfl (lv_at hl 6 rfl) ?_
        refine lv_iadd hx hb d_MO_isTooMuch_102 ?_
        refine lv_dup2_11 hx hb d_MO_isTooMuch_103 rfl rfl ?_
        refine xw_iald (r := 28) (i := 0) hx hb hK hX (by decide) 0 rfl rfl (j := ((((240 : Int32) * v) + ((30 : Int32) * cu)) + it)) (o_c3 hv hc hi) d_MO_isTooMuch_104 ?_
        refine lv_iload hx hb d_MO_isTooMuch_105 (lv_at hl 7 rfl) ?_
        refine lv_isub hx hb d_MO_isTooMuch_107 ?_
        refine xw_iast (r := 28) (i := 0) (ent' := XE dA (xB s0) (xuI (xuI σ 28 0 ((((240 : Int32) * v) + ((30 : Int32) * cu)) + it).toNatClampNeg ((σ.1 28 0 ((((240 : Int32) * v) + ((30 : Int32) * cu)) + it).toNatClampNeg) + n)) 28 0 ((((240 : Int32) * v) + ((30 : Int32) * cu)) + it).toNatClampNeg (((xuI σ 28 0 ((((240 : Int32) * v) + ((30 : Int32) * cu)) + it).toNatClampNeg ((σ.1 28 0 ((((240 : Int32) * v) + ((30 : Int32) * cu)) + it).toNatClampNeg) + n)).1 28 0 ((((240 : Int32) * v) + ((30 : Int32) * cu)) + it).toNatClampNeg) - n))) hx hb hK xInj hX hS (xA_in _ _ _) (by decide) 0 rfl rfl (j := ((((240 : Int32) * v) + ((30 : Int32) * cu)) + it)) (o_c3 hv hc hi) ((xe_uI dA (xB s0) (xuI σ 28 0 ((((240 : Int32) * v) + ((30 : Int32) * cu)) + it).toNatClampNeg ((σ.1 28 0 ((((240 : Int32) * v) + ((30 : Int32) * cu)) + it).toNatClampNeg) + n)) 28 0 ((((240 : Int32) * v) + ((30 : Int32) * cu)) + it).toNatClampNeg (((xuI σ 28 0 ((((240 : Int32) * v) + ((30 : Int32) * cu)) + it).toNatClampNeg ((σ.1 28 0 ((((240 : Int32) * v) + ((30 : Int32) * cu)) + it).toNatClampNeg) + n)).1 28 0 ((((240 : Int32) * v) + ((30 : Int32) * cu)) + it).toNatClampNeg) - n)).trans rfl) (xe_oI dA (xB s0) (xuI σ 28 0 ((((240 : Int32) * v) + ((30 : Int32) * cu)) + it).toNatClampNeg ((σ.1 28 0 ((((240 : Int32) * v) + ((30 : Int32) * cu)) + it).toNatClampNeg) + n)) 28 0 ((((240 : Int32) * v) + ((30 : Int32) * cu)) + it).toNatClampNeg (((xuI σ 28 0 ((((240 : Int32) * v) + ((30 : Int32) * cu)) + it).toNatClampNeg ((σ.1 28 0 ((((240 : Int32) * v) + ((30 : Int32) * cu)) + it).toNatClampNeg) + n)).1 28 0 ((((240 : Int32) * v) + ((30 : Int32) * cu)) + it).toNatClampNeg) - n)) d_MO_isTooMuch_108 (fun H locs hX hS => ?_)
        refine lv_iload hx hb d_MO_isTooMuch_109 (lv_at hl 0 rfl) ?_
        subst hR
        refine W.widen (k := 0) (n := 0) (by decide) (by decide) ?_; exact xs_z hx hb hr hlocks (by rfl) hX hS d_MO_isTooMuch_111
  · rw [if_neg c44] at hR
    refine lv_aload_n hx hb d_MO_isTooMuch_47 rfl (lv_at hl 2 rfl) ?_
    refine lv_iload_n hx hb d_MO_isTooMuch_48 rfl (lv_at hl 3 rfl) ?_
    refine lv_iconst (v := 0) hx hb d_MO_isTooMuch_49 (by decide) ?_
    obtain ⟨cB50, hcB50, hoB50, hkB50⟩ := xw_recv (r := 15) (i := 0) hK hX (by decide) rfl rfl
    refine xc_f (rest := []) (x_invV (argsL := [.int v, .int (0 : Int32)]) hx hb hown (hts _ w_726) (hts _ w_728) (hts _ w_26) (x_code (hts _ w_729)) ⟨by decide, by decide⟩ hcB50 hoB50 hkB50 rfl rfl rfl d_MO_isTooMuch_50) (c_MO_bears h0 (xuI σ 28 0 ((((240 : Int32) * v) + ((30 : Int32) * cu)) + it).toNatClampNeg ((σ.1 28 0 ((((240 : Int32) * v) + ((30 : Int32) * cu)) + it).toNatClampNeg) + n)) v (0 : Int32) hv) (xs_cw h0 hW0 m_729) (hts _ w_38) ⟨rfl, rfl, Nat.le_of_ble_eq_true rfl, Nat.le_of_ble_eq_true rfl⟩ (hl.1.trans hml.symm) (by rw [hb]; exact d_MO_isTooMuch_50) (Nat.le_of_ble_eq_true rfl) ⟨Nat.le_of_ble_eq_true rfl, Nat.le_of_ble_eq_true rfl⟩ hX ⟨hW0, xo_S hS⟩ ?_
    refine lv_lload hx hb d_MO_isTooMuch_53 (lv_at hl 1 rfl) ?_
    refine W.lcmp hx hb d_MO_isTooMuch_55 ?_
    refine lv_if_gt (tgt := 80) hx hb d_MO_isTooMuch_56 (by decide) (fun c56 => ?_) (fun c56 => ?_)
    · rw [if_pos c56] at hR
      refine lv_iconst (v := 1) hx hb d_MO_isTooMuch_80 (by decide) ?_
      refine lv_goto (tgt := 85) hx hb d_MO_isTooMuch_81 (by decide) ?_
      refine lv_istore (lv' := [(9, .int (1 : Int32)), (7, .long (S_MO_bears σ v (1 : Int32))), (5, .long (S_MO_bears σ v (0 : Int32))), (0, .ref (xB s0 + XA 15 0)), (1, .int v), (2, .int cu), (3, .int it), (4, .int n)]) hx hb d_MO_isTooMuch_85 hl (by decide) rfl (fun ls hl => ?_)
      refine lv_aload_n hx hb d_MO_isTooMuch_87 rfl (lv_at hl 3 rfl) ?_
      refine xw_get (C := R_MO) (T := F_MO) (N := 20) (r := 15) (i := 0) hx hb hts hi_MO hown hK hX (by decide) rfl rfl 16 (by decide) (hts _ w_611) rfl rfl d_MO_isTooMuch_88 ?_
      refine lv_sipush (v := 240) hx hb d_MO_isTooMuch_91 (by decide) ?_
      refine lv_iload_n hx hb d_MO_isTooMuch_94 rfl (lv_at hl 4 rfl) ?_
      refine lv_imul hx hb d_MO_isTooMuch_95 ?_
      refine lv_bipush (v := 30) hx hb d_MO_isTooMuch_96 (by decide) ?_
      refine lv_iload_n hx hb d_MO_isTooMuch_98 rfl (lv_at hl 5 rfl) ?_
      refine lv_imul hx hb d_MO_isTooMuch_99 ?_
      refine lv_iadd hx hb d_MO_isTooMuch_100 ?_
      refine lv_iload_n hx hb d_MO_isTooMuch_101 rfl (lv_at hl 6 rfl) ?_
      refine lv_iadd hx hb d_MO_isTooMuch_102 ?_
      refine lv_dup2_11 hx hb d_MO_isTooMuch_103 rfl rfl ?_
      refine xw_iald (r := 28) (i := 0) hx hb hK hX (by decide) 0 rfl rfl (j := ((((240 : Int32) * v) + ((30 : Int32) * cu)) + it)) (o_c3 hv hc hi) d_MO_isTooMuch_104 ?_
      refine lv_iload hx hb d_MO_isTooMuch_105 (lv_at hl 7 rfl) ?_
      refine lv_isub hx hb d_MO_isTooMuch_107 ?_
      refine xw_iast (r := 28) (i := 0) (ent' := XE dA (xB s0) (xuI (xuI σ 28 0 ((((240 : Int32) * v) + ((30 : Int32) * cu)) + it).toNatClampNeg ((σ.1 28 0 ((((240 : Int32) * v) + ((30 : Int32) * cu)) + it).toNatClampNeg) + n)) 28 0 ((((240 : Int32) * v) + ((30 : Int32) * cu)) + it).toNatClampNeg (((xuI σ 28 0 ((((240 : Int32) * v) + ((30 : Int32) * cu)) + it).toNatClampNeg ((σ.1 28 0 ((((240 : Int32) * v) + ((30 : Int32) * cu)) + it).toNatClampNeg) + n)).1 28 0 ((((240 : Int32) * v) + ((30 : Int32) * cu)) + it).toNatClampNeg) - n))) hx hb hK xInj hX hS (xA_in _ _ _) (by decide) 0 rfl rfl (j := ((((240 : Int32) * v) + ((30 : Int32) * cu)) + it)) (o_c3 hv hc hi) ((xe_uI dA (xB s0) (xuI σ 28 0 ((((240 : Int32) * v) + ((30 : Int32) * cu)) + it).toNatClampNeg ((σ.1 28 0 ((((240 : Int32) * v) + ((30 : Int32) * cu)) + it).toNatClampNeg) + n)) 28 0 ((((240 : Int32) * v) + ((30 : Int32) * cu)) + it).toNatClampNeg (((xuI σ 28 0 ((((240 : Int32) * v) + ((30 : Int32) * cu)) + it).toNatClampNeg ((σ.1 28 0 ((((240 : Int32) * v) + ((30 : Int32) * cu)) + it).toNatClampNeg) + n)).1 28 0 ((((240 : Int32) * v) + ((30 : Int32) * cu)) + it).toNatClampNeg) - n)).trans rfl) (xe_oI dA (xB s0) (xuI σ 28 0 ((((240 : Int32) * v) + ((30 : Int32) * cu)) + it).toNatClampNeg ((σ.1 28 0 ((((240 : Int32) * v) + ((30 : Int32) * cu)) + it).toNatClampNeg) + n)) 28 0 ((((240 : Int32) * v) + ((30 : Int32) * cu)) + it).toNatClampNeg (((xuI σ 28 0 ((((240 : Int32) * v) + ((30 : Int32) * cu)) + it).toNatClampNeg ((σ.1 28 0 ((((240 : Int32) * v) + ((30 : Int32) * cu)) + it).toNatClampNeg) + n)).1 28 0 ((((240 : Int32) * v) + ((30 : Int32) * cu)) + it).toNatClampNeg) - n)) d_MO_isTooMuch_108 (fun H locs hX hS => ?_)
      refine lv_iload hx hb d_MO_isTooMuch_109 (lv_at hl 0 rfl) ?_
      subst hR
      refine W.widen (k := 0) (n := 0) (by decide) (by decide) ?_; exact xs_z hx hb hr hlocks (by rfl) hX hS d_MO_isTooMuch_111
    · rw [if_neg c56] at hR
      refine lv_aload_n hx hb d_MO_isTooMuch_59 rfl (lv_at hl 2 rfl) ?_
      refine lv_iload_n hx hb d_MO_isTooMuch_60 rfl (lv_at hl 3 rfl) ?_
      refine lv_iconst (v := 1) hx hb d_MO_isTooMuch_61 (by decide) ?_
      obtain ⟨cB62, hcB62, hoB62, hkB62⟩ := xw_recv (r := 15) (i := 0) hK hX (by decide) rfl rfl
      refine xc_f (rest := []) (x_invV (argsL := [.int v, .int (1 : Int32)]) hx hb hown (hts _ w_738) (hts _ w_740) (hts _ w_29) (x_code (hts _ w_741)) ⟨by decide, by decide⟩ hcB62 hoB62 hkB62 rfl rfl rfl d_MO_isTooMuch_62) (c_MO_isBeyond h0 (xuI σ 28 0 ((((240 : Int32) * v) + ((30 : Int32) * cu)) + it).toNatClampNeg ((σ.1 28 0 ((((240 : Int32) * v) + ((30 : Int32) * cu)) + it).toNatClampNeg) + n)) v (1 : Int32) hv) (xs_cw h0 hW0 m_741) (hts _ w_38) ⟨rfl, rfl, Nat.le_of_ble_eq_true rfl, Nat.le_of_ble_eq_true rfl⟩ (hl.1.trans hml.symm) (by rw [hb]; exact d_MO_isTooMuch_62) (Nat.le_of_ble_eq_true rfl) ⟨Nat.le_of_ble_eq_true rfl, Nat.le_of_ble_eq_true rfl⟩ hX ⟨hW0, xo_S hS⟩ ?_
      refine lv_if_eq (tgt := 84) hx hb d_MO_isTooMuch_65 (by decide) (fun c65 => ?_) (fun c65 => ?_)
      · rw [if_pos c65] at hR
        refine lv_iconst (v := 0) hx hb d_MO_isTooMuch_84 (by decide) ?_
        refine lv_istore (lv' := [(9, .int (0 : Int32)), (7, .long (S_MO_bears σ v (1 : Int32))), (5, .long (S_MO_bears σ v (0 : Int32))), (0, .ref (xB s0 + XA 15 0)), (1, .int v), (2, .int cu), (3, .int it), (4, .int n)]) hx hb d_MO_isTooMuch_85 hl (by decide) rfl (fun ls hl => ?_)
        refine lv_aload_n hx hb d_MO_isTooMuch_87 rfl (lv_at hl 3 rfl) ?_
        refine xw_get (C := R_MO) (T := F_MO) (N := 20) (r := 15) (i := 0) hx hb hts hi_MO hown hK hX (by decide) rfl rfl 16 (by decide) (hts _ w_611) rfl rfl d_MO_isTooMuch_88 ?_
        refine lv_sipush (v := 240) hx hb d_MO_isTooMuch_91 (by decide) ?_
        refine lv_iload_n hx hb d_MO_isTooMuch_94 rfl (lv_at hl 4 rfl) ?_
        refine lv_imul hx hb d_MO_isTooMuch_95 ?_
        refine lv_bipush (v := 30) hx hb d_MO_isTooMuch_96 (by decide) ?_
        refine lv_iload_n hx hb d_MO_isTooMuch_98 rfl (lv_at hl 5 rfl) ?_
        refine lv_imul hx hb d_MO_isTooMuch_99 ?_
        refine lv_iadd hx hb d_MO_isTooMuch_100 ?_
        refine lv_iload_n hx hb d_MO_isTooMuch_101 rfl (lv_at hl 6 rfl) ?_
        refine lv_iadd hx hb d_MO_isTooMuch_102 ?_
        refine lv_dup2_11 hx hb d_MO_isTooMuch_103 rfl rfl ?_
        refine xw_iald (r := 28) (i := 0) hx hb hK hX (by decide) 0 rfl rfl (j := ((((240 : Int32) * v) + ((30 : Int32) * cu)) + it)) (o_c3 hv hc hi) d_MO_isTooMuch_104 ?_
        refine lv_iload hx hb d_MO_isTooMuch_105 (lv_at hl 7 rfl) ?_
        refine lv_isub hx hb d_MO_isTooMuch_107 ?_
        refine xw_iast (r := 28) (i := 0) (ent' := XE dA (xB s0) (xuI (xuI σ 28 0 ((((240 : Int32) * v) + ((30 : Int32) * cu)) + it).toNatClampNeg ((σ.1 28 0 ((((240 : Int32) * v) + ((30 : Int32) * cu)) + it).toNatClampNeg) + n)) 28 0 ((((240 : Int32) * v) + ((30 : Int32) * cu)) + it).toNatClampNeg (((xuI σ 28 0 ((((240 : Int32) * v) + ((30 : Int32) * cu)) + it).toNatClampNeg ((σ.1 28 0 ((((240 : Int32) * v) + ((30 : Int32) * cu)) + it).toNatClampNeg) + n)).1 28 0 ((((240 : Int32) * v) + ((30 : Int32) * cu)) + it).toNatClampNeg) - n))) hx hb hK xInj hX hS (xA_in _ _ _) (by decide) 0 rfl rfl (j := ((((240 : Int32) * v) + ((30 : Int32) * cu)) + it)) (o_c3 hv hc hi) ((xe_uI dA (xB s0) (xuI σ 28 0 ((((240 : Int32) * v) + ((30 : Int32) * cu)) + it).toNatClampNeg ((σ.1 28 0 ((((240 : Int32) * v) + ((30 : Int32) * cu)) + it).toNatClampNeg) + n)) 28 0 ((((240 : Int32) * v) + ((30 : Int32) * cu)) + it).toNatClampNeg (((xuI σ 28 0 ((((240 : Int32) * v) + ((30 : Int32) * cu)) + it).toNatClampNeg ((σ.1 28 0 ((((240 : Int32) * v) + ((30 : Int32) * cu)) + it).toNatClampNeg) + n)).1 28 0 ((((240 : Int32) * v) + ((30 : Int32) * cu)) + it).toNatClampNeg) - n)).trans rfl) (xe_oI dA (xB s0) (xuI σ 28 0 ((((240 : Int32) * v) + ((30 : Int32) * cu)) + it).toNatClampNeg ((σ.1 28 0 ((((240 : Int32) * v) + ((30 : Int32) * cu)) + it).toNatClampNeg) + n)) 28 0 ((((240 : Int32) * v) + ((30 : Int32) * cu)) + it).toNatClampNeg (((xuI σ 28 0 ((((240 : Int32) * v) + ((30 : Int32) * cu)) + it).toNatClampNeg ((σ.1 28 0 ((((240 : Int32) * v) + ((30 : Int32) * cu)) + it).toNatClampNeg) + n)).1 28 0 ((((240 : Int32) * v) + ((30 : Int32) * cu)) + it).toNatClampNeg) - n)) d_MO_isTooMuch_108 (fun H locs hX hS => ?_)
        refine lv_iload hx hb d_MO_isTooMuch_109 (lv_at hl 0 rfl) ?_
        subst hR
        refine W.widen (k := 0) (n := 0) (by decide) (by decide) ?_; exact xs_z hx hb hr hlocks (by rfl) hX hS d_MO_isTooMuch_111
      · rw [if_neg c65] at hR
        refine lv_aload_n hx hb d_MO_isTooMuch_68 rfl (lv_at hl 2 rfl) ?_
        refine lv_iload_n hx hb d_MO_isTooMuch_69 rfl (lv_at hl 3 rfl) ?_
        refine lv_iconst (v := 1) hx hb d_MO_isTooMuch_70 (by decide) ?_
        obtain ⟨cB71, hcB71, hoB71, hkB71⟩ := xw_recv (r := 15) (i := 0) hK hX (by decide) rfl rfl
        refine xc_f (rest := []) (x_invV (argsL := [.int v, .int (1 : Int32)]) hx hb hown (hts _ w_726) (hts _ w_728) (hts _ w_26) (x_code (hts _ w_729)) ⟨by decide, by decide⟩ hcB71 hoB71 hkB71 rfl rfl rfl d_MO_isTooMuch_71) (c_MO_bears h0 (xuI σ 28 0 ((((240 : Int32) * v) + ((30 : Int32) * cu)) + it).toNatClampNeg ((σ.1 28 0 ((((240 : Int32) * v) + ((30 : Int32) * cu)) + it).toNatClampNeg) + n)) v (1 : Int32) hv) (xs_cw h0 hW0 m_729) (hts _ w_38) ⟨rfl, rfl, Nat.le_of_ble_eq_true rfl, Nat.le_of_ble_eq_true rfl⟩ (hl.1.trans hml.symm) (by rw [hb]; exact d_MO_isTooMuch_71) (Nat.le_of_ble_eq_true rfl) ⟨Nat.le_of_ble_eq_true rfl, Nat.le_of_ble_eq_true rfl⟩ hX ⟨hW0, xo_S hS⟩ ?_
        refine lv_lload hx hb d_MO_isTooMuch_74 (lv_at hl 0 rfl) ?_
        refine W.lcmp hx hb d_MO_isTooMuch_76 ?_
        refine lv_if_le (tgt := 84) hx hb d_MO_isTooMuch_77 (by decide) (fun c77 => ?_) (fun c77 => ?_)
        · rw [if_pos c77] at hR
          refine lv_iconst (v := 0) hx hb d_MO_isTooMuch_84 (by decide) ?_
          refine lv_istore (lv' := [(9, .int (0 : Int32)), (7, .long (S_MO_bears σ v (1 : Int32))), (5, .long (S_MO_bears σ v (0 : Int32))), (0, .ref (xB s0 + XA 15 0)), (1, .int v), (2, .int cu), (3, .int it), (4, .int n)]) hx hb d_MO_isTooMuch_85 hl (by decide) rfl (fun ls hl => ?_)
          refine lv_aload_n hx hb d_MO_isTooMuch_87 rfl (lv_at hl 3 rfl) ?_
          refine xw_get (C := R_MO) (T := F_MO) (N := 20) (r := 15) (i := 0) hx hb hts hi_MO hown hK hX (by decide) rfl rfl 16 (by decide) (hts _ w_611) rfl rfl d_MO_isTooMuch_88 ?_
          refine lv_sipush (v := 240) hx hb d_MO_isTooMuch_91 (by decide) ?_
          refine lv_iload_n hx hb d_MO_isTooMuch_94 rfl (lv_at hl 4 rfl) ?_
          refine lv_imul hx hb d_MO_isTooMuch_95 ?_
          refine lv_bipush (v := 30) hx hb d_MO_isTooMuch_96 (by decide) ?_
          refine lv_iload_n hx hb d_MO_isTooMuch_98 rfl (lv_at hl 5 rfl) ?_
          refine lv_imul hx hb d_MO_isTooMuch_99 ?_
          refine lv_iadd hx hb d_MO_isTooMuch_100 ?_
          refine lv_iload_n hx hb d_MO_isTooMuch_101 rfl (lv_at hl 6 rfl) ?_
          refine lv_iadd hx hb d_MO_isTooMuch_102 ?_
          refine lv_dup2_11 hx hb d_MO_isTooMuch_103 rfl rfl ?_
          refine xw_iald (r := 28) (i := 0) hx hb hK hX (by decide) 0 rfl rfl (j := ((((240 : Int32) * v) + ((30 : Int32) * cu)) + it)) (o_c3 hv hc hi) d_MO_isTooMuch_104 ?_
          refine lv_iload hx hb d_MO_isTooMuch_105 (lv_at hl 7 rfl) ?_
          refine lv_isub hx hb d_MO_isTooMuch_107 ?_
          refine xw_iast (r := 28) (i := 0) (ent' := XE dA (xB s0) (xuI (xuI σ 28 0 ((((240 : Int32) * v) + ((30 : Int32) * cu)) + it).toNatClampNeg ((σ.1 28 0 ((((240 : Int32) * v) + ((30 : Int32) * cu)) + it).toNatClampNeg) + n)) 28 0 ((((240 : Int32) * v) + ((30 : Int32) * cu)) + it).toNatClampNeg (((xuI σ 28 0 ((((240 : Int32) * v) + ((30 : Int32) * cu)) + it).toNatClampNeg ((σ.1 28 0 ((((240 : Int32) * v) + ((30 : Int32) * cu)) + it).toNatClampNeg) + n)).1 28 0 ((((240 : Int32) * v) + ((30 : Int32) * cu)) + it).toNatClampNeg) - n))) hx hb hK xInj hX hS (xA_in _ _ _) (by decide) 0 rfl rfl (j := ((((240 : Int32) * v) + ((30 : Int32) * cu)) + it)) (o_c3 hv hc hi) ((xe_uI dA (xB s0) (xuI σ 28 0 ((((240 : Int32) * v) + ((30 : Int32) * cu)) + it).toNatClampNeg ((σ.1 28 0 ((((240 : Int32) * v) + ((30 : Int32) * cu)) + it).toNatClampNeg) + n)) 28 0 ((((240 : Int32) * v) + ((30 : Int32) * cu)) + it).toNatClampNeg (((xuI σ 28 0 ((((240 : Int32) * v) + ((30 : Int32) * cu)) + it).toNatClampNeg ((σ.1 28 0 ((((240 : Int32) * v) + ((30 : Int32) * cu)) + it).toNatClampNeg) + n)).1 28 0 ((((240 : Int32) * v) + ((30 : Int32) * cu)) + it).toNatClampNeg) - n)).trans rfl) (xe_oI dA (xB s0) (xuI σ 28 0 ((((240 : Int32) * v) + ((30 : Int32) * cu)) + it).toNatClampNeg ((σ.1 28 0 ((((240 : Int32) * v) + ((30 : Int32) * cu)) + it).toNatClampNeg) + n)) 28 0 ((((240 : Int32) * v) + ((30 : Int32) * cu)) + it).toNatClampNeg (((xuI σ 28 0 ((((240 : Int32) * v) + ((30 : Int32) * cu)) + it).toNatClampNeg ((σ.1 28 0 ((((240 : Int32) * v) + ((30 : Int32) * cu)) + it).toNatClampNeg) + n)).1 28 0 ((((240 : Int32) * v) + ((30 : Int32) * cu)) + it).toNatClampNeg) - n)) d_MO_isTooMuch_108 (fun H locs hX hS => ?_)
          refine lv_iload hx hb d_MO_isTooMuch_109 (lv_at hl 0 rfl) ?_
          subst hR
          refine W.widen (k := 0) (n := 0) (by decide) (by decide) ?_; exact xs_z hx hb hr hlocks (by rfl) hX hS d_MO_isTooMuch_111
        · rw [if_neg c77] at hR
          refine lv_iconst (v := 1) hx hb d_MO_isTooMuch_80 (by decide) ?_
          refine lv_goto (tgt := 85) hx hb d_MO_isTooMuch_81 (by decide) ?_
          refine lv_istore (lv' := [(9, .int (1 : Int32)), (7, .long (S_MO_bears σ v (1 : Int32))), (5, .long (S_MO_bears σ v (0 : Int32))), (0, .ref (xB s0 + XA 15 0)), (1, .int v), (2, .int cu), (3, .int it), (4, .int n)]) hx hb d_MO_isTooMuch_85 hl (by decide) rfl (fun ls hl => ?_)
          refine lv_aload_n hx hb d_MO_isTooMuch_87 rfl (lv_at hl 3 rfl) ?_
          refine xw_get (C := R_MO) (T := F_MO) (N := 20) (r := 15) (i := 0) hx hb hts hi_MO hown hK hX (by decide) rfl rfl 16 (by decide) (hts _ w_611) rfl rfl d_MO_isTooMuch_88 ?_
          refine lv_sipush (v := 240) hx hb d_MO_isTooMuch_91 (by decide) ?_
          refine lv_iload_n hx hb d_MO_isTooMuch_94 rfl (lv_at hl 4 rfl) ?_
          refine lv_imul hx hb d_MO_isTooMuch_95 ?_
          refine lv_bipush (v := 30) hx hb d_MO_isTooMuch_96 (by decide) ?_
          refine lv_iload_n hx hb d_MO_isTooMuch_98 rfl (lv_at hl 5 rfl) ?_
          refine lv_imul hx hb d_MO_isTooMuch_99 ?_
          refine lv_iadd hx hb d_MO_isTooMuch_100 ?_
          refine lv_iload_n hx hb d_MO_isTooMuch_101 rfl (lv_at hl 6 rfl) ?_
          refine lv_iadd hx hb d_MO_isTooMuch_102 ?_
          refine lv_dup2_11 hx hb d_MO_isTooMuch_103 rfl rfl ?_
          refine xw_iald (r := 28) (i := 0) hx hb hK hX (by decide) 0 rfl rfl (j := ((((240 : Int32) * v) + ((30 : Int32) * cu)) + it)) (o_c3 hv hc hi) d_MO_isTooMuch_104 ?_
          refine lv_iload hx hb d_MO_isTooMuch_105 (lv_at hl 7 rfl) ?_
          refine lv_isub hx hb d_MO_isTooMuch_107 ?_
          refine xw_iast (r := 28) (i := 0) (ent' := XE dA (xB s0) (xuI (xuI σ 28 0 ((((240 : Int32) * v) + ((30 : Int32) * cu)) + it).toNatClampNeg ((σ.1 28 0 ((((240 : Int32) * v) + ((30 : Int32) * cu)) + it).toNatClampNeg) + n)) 28 0 ((((240 : Int32) * v) + ((30 : Int32) * cu)) + it).toNatClampNeg (((xuI σ 28 0 ((((240 : Int32) * v) + ((30 : Int32) * cu)) + it).toNatClampNeg ((σ.1 28 0 ((((240 : Int32) * v) + ((30 : Int32) * cu)) + it).toNatClampNeg) + n)).1 28 0 ((((240 : Int32) * v) + ((30 : Int32) * cu)) + it).toNatClampNeg) - n))) hx hb hK xInj hX hS (xA_in _ _ _) (by decide) 0 rfl rfl (j := ((((240 : Int32) * v) + ((30 : Int32) * cu)) + it)) (o_c3 hv hc hi) ((xe_uI dA (xB s0) (xuI σ 28 0 ((((240 : Int32) * v) + ((30 : Int32) * cu)) + it).toNatClampNeg ((σ.1 28 0 ((((240 : Int32) * v) + ((30 : Int32) * cu)) + it).toNatClampNeg) + n)) 28 0 ((((240 : Int32) * v) + ((30 : Int32) * cu)) + it).toNatClampNeg (((xuI σ 28 0 ((((240 : Int32) * v) + ((30 : Int32) * cu)) + it).toNatClampNeg ((σ.1 28 0 ((((240 : Int32) * v) + ((30 : Int32) * cu)) + it).toNatClampNeg) + n)).1 28 0 ((((240 : Int32) * v) + ((30 : Int32) * cu)) + it).toNatClampNeg) - n)).trans rfl) (xe_oI dA (xB s0) (xuI σ 28 0 ((((240 : Int32) * v) + ((30 : Int32) * cu)) + it).toNatClampNeg ((σ.1 28 0 ((((240 : Int32) * v) + ((30 : Int32) * cu)) + it).toNatClampNeg) + n)) 28 0 ((((240 : Int32) * v) + ((30 : Int32) * cu)) + it).toNatClampNeg (((xuI σ 28 0 ((((240 : Int32) * v) + ((30 : Int32) * cu)) + it).toNatClampNeg ((σ.1 28 0 ((((240 : Int32) * v) + ((30 : Int32) * cu)) + it).toNatClampNeg) + n)).1 28 0 ((((240 : Int32) * v) + ((30 : Int32) * cu)) + it).toNatClampNeg) - n)) d_MO_isTooMuch_108 (fun H locs hX hS => ?_)
          refine lv_iload hx hb d_MO_isTooMuch_109 (lv_at hl 0 rfl) ?_
          subst hR
          refine W.widen (k := 0) (n := 0) (by decide) (by decide) ?_; exact xs_z hx hb hr hlocks (by rfl) hX hS d_MO_isTooMuch_111

abbrev rm_MO_tell : Room := { frames := 0, cells := 0, slots := 0, locals := 0 }
def S_MO_tell (σ : XS) (v : Int32) (it : Int32) (n : Int32) : Unit × XS := ((), (xuI (xuI (xuI (xuI σ 30 0 ((3 : Int32) * ((σ.1 15 0 18) - (σ.1 15 0 18) / (100 : Int32) * (100 : Int32))).toNatClampNeg v) 30 0 (((3 : Int32) * ((σ.1 15 0 18) - (σ.1 15 0 18) / (100 : Int32) * (100 : Int32))) + (1 : Int32)).toNatClampNeg it) 30 0 (((3 : Int32) * ((σ.1 15 0 18) - (σ.1 15 0 18) / (100 : Int32) * (100 : Int32))) + (2 : Int32)).toNatClampNeg n) 15 0 18 (((xuI (xuI (xuI σ 30 0 ((3 : Int32) * ((σ.1 15 0 18) - (σ.1 15 0 18) / (100 : Int32) * (100 : Int32))).toNatClampNeg v) 30 0 (((3 : Int32) * ((σ.1 15 0 18) - (σ.1 15 0 18) / (100 : Int32) * (100 : Int32))) + (1 : Int32)).toNatClampNeg it) 30 0 (((3 : Int32) * ((σ.1 15 0 18) - (σ.1 15 0 18) / (100 : Int32) * (100 : Int32))) + (2 : Int32)).toNatClampNeg n).1 15 0 18) + (1 : Int32))))
set_option maxHeartbeats 4000000 in
set_option maxRecDepth 100000 in
theorem c_MO_tell {l : Launch} {s0 : State} {A0 : Array Value} {D : va_G} {dA : Nat → ClassId} (h0 : XS0 l s0 A0 D dA) (σ : XS) (v : Int32) (it : Int32) (n : Int32) (hr0 : 0 ≤ (σ.1 15 0 18).toInt) : XMet l y_MO_tell [cw_MO_tell] rm_MO_tell (XP D dA s0 σ [.ref (xB s0 + XA 15 0), .int v, .int it, .int n]) (XQs D dA s0 xv_v (.inl (S_MO_tell σ v it n))) 0 0 (xAm s0) := by
  refine XMet.ofW (cc := b_MO_tell) (maxL := 5) (ret := none) (by decide) rfl ?_
  intro p e s m args below meth c s₁ Bd hml hvA
  obtain ⟨rfl, hX, hO⟩ := hvA
  have hx := Bd.exec
  have hb := Bd.bytes
  have hr := Bd.returns
  have hown : s.vm.findClass "LoadChecksModel" = some m.cls := findClass_of_methodNamed Bd.named
  have hlocks := Bd.notSynchronized
  have hnt : c.exceptionTable.isEmpty = true := Bd.noHandlers (atoms_spec (ws := [cw_MO_tell]) Bd.pre _ List.mem_cons_self)
  have hW0 := hO.1
  have hts := xs_w (args := ([.ref (xB s0 + XA 15 0), .int v, .int it, .int n] : List Value).toArray) h0 hW0
  have hK := xs_K h0 hW0
  have hS := xo_S0 hO
  have hl := lv_entry ([.ref (xB s0 + XA 15 0), .int v, .int it, .int n]) (n := 5) (Nat.le_of_ble_eq_true rfl)
  rw [lg_entry_eq]
  generalize (lg_sl ([.ref (xB s0 + XA 15 0), .int v, .int it, .int n]) ++ List.replicate (5 - (lg_sl ([.ref (xB s0 + XA 15 0), .int v, .int it, .int n])).length) Slot.unset).toArray = ls at hl ⊢
  have hl : lv_has ls 5 [(0, .ref (xB s0 + XA 15 0)), (1, .int v), (2, .int it), (3, .int n)] := hl
  generalize hR : S_MO_tell σ v it n = res
  unfold S_MO_tell at hR
  refine lv_iconst (v := 3) hx hb d_MO_tell_0 (by decide) ?_
  refine lv_aload_n hx hb d_MO_tell_1 rfl (lv_at hl 0 rfl) ?_
  refine xw_get (C := R_MO) (T := F_MO) (N := 20) (r := 15) (i := 0) hx hb hts hi_MO hown hK hX (by decide) rfl rfl 18 (by decide) (hts _ w_613) rfl rfl d_MO_tell_2 ?_
  refine lv_bipush (v := 100) hx hb d_MO_tell_5 (by decide) ?_
  refine lv_irem hx hb d_MO_tell_7 (by decide) ?_
  refine lv_imul hx hb d_MO_tell_8 ?_
  refine lv_istore (lv' := [(4, .int ((3 : Int32) * ((σ.1 15 0 18) - (σ.1 15 0 18) / (100 : Int32) * (100 : Int32)))), (0, .ref (xB s0 + XA 15 0)), (1, .int v), (2, .int it), (3, .int n)]) hx hb d_MO_tell_9 hl (by decide) rfl (fun ls hl => ?_)
  refine lv_aload_n hx hb d_MO_tell_11 rfl (lv_at hl 1 rfl) ?_
  refine xw_get (C := R_MO) (T := F_MO) (N := 20) (r := 15) (i := 0) hx hb hts hi_MO hown hK hX (by decide) rfl rfl 19 (by decide) (hts _ w_614) rfl rfl d_MO_tell_12 ?_
  refine lv_iload hx hb d_MO_tell_15 (lv_at hl 0 rfl) ?_
  refine lv_iload_n hx hb d_MO_tell_17 rfl (lv_at hl 2 rfl) ?_
  refine xw_iast (r := 30) (i := 0) (ent' := XE dA (xB s0) (xuI σ 30 0 ((3 : Int32) * ((σ.1 15 0 18) - (σ.1 15 0 18) / (100 : Int32) * (100 : Int32))).toNatClampNeg v)) hx hb hK xInj hX hS (xA_in _ _ _) (by decide) 0 rfl rfl (j := ((3 : Int32) * ((σ.1 15 0 18) - (σ.1 15 0 18) / (100 : Int32) * (100 : Int32)))) (o_tell0 hr0) ((xe_uI dA (xB s0) σ 30 0 ((3 : Int32) * ((σ.1 15 0 18) - (σ.1 15 0 18) / (100 : Int32) * (100 : Int32))).toNatClampNeg v).trans rfl) (xe_oI dA (xB s0) σ 30 0 ((3 : Int32) * ((σ.1 15 0 18) - (σ.1 15 0 18) / (100 : Int32) * (100 : Int32))).toNatClampNeg v) d_MO_tell_18 (fun H locs hX hS => ?_)
  refine lv_aload_n hx hb d_MO_tell_19 rfl (lv_at hl 1 rfl) ?_
  refine xw_get (C := R_MO) (T := F_MO) (N := 20) (r := 15) (i := 0) hx hb hts hi_MO hown hK hX (by decide) rfl rfl 19 (by decide) (hts _ w_614) rfl rfl d_MO_tell_20 ?_
  refine lv_iload hx hb d_MO_tell_23 (lv_at hl 0 rfl) ?_
  refine lv_iconst (v := 1) hx hb d_MO_tell_25 (by decide) ?_
  refine lv_iadd hx hb d_MO_tell_26 ?_
  refine lv_iload_n hx hb d_MO_tell_27 rfl (lv_at hl 3 rfl) ?_
  refine xw_iast (r := 30) (i := 0) (ent' := XE dA (xB s0) (xuI (xuI σ 30 0 ((3 : Int32) * ((σ.1 15 0 18) - (σ.1 15 0 18) / (100 : Int32) * (100 : Int32))).toNatClampNeg v) 30 0 (((3 : Int32) * ((σ.1 15 0 18) - (σ.1 15 0 18) / (100 : Int32) * (100 : Int32))) + (1 : Int32)).toNatClampNeg it)) hx hb hK xInj hX hS (xA_in _ _ _) (by decide) 0 rfl rfl (j := (((3 : Int32) * ((σ.1 15 0 18) - (σ.1 15 0 18) / (100 : Int32) * (100 : Int32))) + (1 : Int32))) (o_tell1 hr0) ((xe_uI dA (xB s0) (xuI σ 30 0 ((3 : Int32) * ((σ.1 15 0 18) - (σ.1 15 0 18) / (100 : Int32) * (100 : Int32))).toNatClampNeg v) 30 0 (((3 : Int32) * ((σ.1 15 0 18) - (σ.1 15 0 18) / (100 : Int32) * (100 : Int32))) + (1 : Int32)).toNatClampNeg it).trans rfl) (xe_oI dA (xB s0) (xuI σ 30 0 ((3 : Int32) * ((σ.1 15 0 18) - (σ.1 15 0 18) / (100 : Int32) * (100 : Int32))).toNatClampNeg v) 30 0 (((3 : Int32) * ((σ.1 15 0 18) - (σ.1 15 0 18) / (100 : Int32) * (100 : Int32))) + (1 : Int32)).toNatClampNeg it) d_MO_tell_28 (fun H locs hX hS => ?_)
  refine lv_aload_n hx hb d_MO_tell_29 rfl (lv_at hl 1 rfl) ?_
  refine xw_get (C := R_MO) (T := F_MO) (N := 20) (r := 15) (i := 0) hx hb hts hi_MO hown hK hX (by decide) rfl rfl 19 (by decide) (hts _ w_614) rfl rfl d_MO_tell_30 ?_
  refine lv_iload hx hb d_MO_tell_33 (lv_at hl 0 rfl) ?_
  refine lv_iconst (v := 2) hx hb d_MO_tell_35 (by decide) ?_
  refine lv_iadd hx hb d_MO_tell_36 ?_
  refine lv_iload_n hx hb d_MO_tell_37 rfl (lv_at hl 4 rfl) ?_
  refine xw_iast (r := 30) (i := 0) (ent' := XE dA (xB s0) (xuI (xuI (xuI σ 30 0 ((3 : Int32) * ((σ.1 15 0 18) - (σ.1 15 0 18) / (100 : Int32) * (100 : Int32))).toNatClampNeg v) 30 0 (((3 : Int32) * ((σ.1 15 0 18) - (σ.1 15 0 18) / (100 : Int32) * (100 : Int32))) + (1 : Int32)).toNatClampNeg it) 30 0 (((3 : Int32) * ((σ.1 15 0 18) - (σ.1 15 0 18) / (100 : Int32) * (100 : Int32))) + (2 : Int32)).toNatClampNeg n)) hx hb hK xInj hX hS (xA_in _ _ _) (by decide) 0 rfl rfl (j := (((3 : Int32) * ((σ.1 15 0 18) - (σ.1 15 0 18) / (100 : Int32) * (100 : Int32))) + (2 : Int32))) (o_tell2 hr0) ((xe_uI dA (xB s0) (xuI (xuI σ 30 0 ((3 : Int32) * ((σ.1 15 0 18) - (σ.1 15 0 18) / (100 : Int32) * (100 : Int32))).toNatClampNeg v) 30 0 (((3 : Int32) * ((σ.1 15 0 18) - (σ.1 15 0 18) / (100 : Int32) * (100 : Int32))) + (1 : Int32)).toNatClampNeg it) 30 0 (((3 : Int32) * ((σ.1 15 0 18) - (σ.1 15 0 18) / (100 : Int32) * (100 : Int32))) + (2 : Int32)).toNatClampNeg n).trans rfl) (xe_oI dA (xB s0) (xuI (xuI σ 30 0 ((3 : Int32) * ((σ.1 15 0 18) - (σ.1 15 0 18) / (100 : Int32) * (100 : Int32))).toNatClampNeg v) 30 0 (((3 : Int32) * ((σ.1 15 0 18) - (σ.1 15 0 18) / (100 : Int32) * (100 : Int32))) + (1 : Int32)).toNatClampNeg it) 30 0 (((3 : Int32) * ((σ.1 15 0 18) - (σ.1 15 0 18) / (100 : Int32) * (100 : Int32))) + (2 : Int32)).toNatClampNeg n) d_MO_tell_38 (fun H locs hX hS => ?_)
  refine lv_aload_n hx hb d_MO_tell_39 rfl (lv_at hl 1 rfl) ?_
  refine lv_dup hx hb d_MO_tell_40 rfl ?_
  refine xw_get (C := R_MO) (T := F_MO) (N := 20) (r := 15) (i := 0) hx hb hts hi_MO hown hK hX (by decide) rfl rfl 18 (by decide) (hts _ w_613) rfl rfl d_MO_tell_41 ?_
  refine lv_iconst (v := 1) hx hb d_MO_tell_44 (by decide) ?_
  refine lv_iadd hx hb d_MO_tell_45 ?_
  refine xw_put (C := R_MO) (T := F_MO) (N := 20) (r := 15) (i := 0) (ent' := XE dA (xB s0) (xuI (xuI (xuI (xuI σ 30 0 ((3 : Int32) * ((σ.1 15 0 18) - (σ.1 15 0 18) / (100 : Int32) * (100 : Int32))).toNatClampNeg v) 30 0 (((3 : Int32) * ((σ.1 15 0 18) - (σ.1 15 0 18) / (100 : Int32) * (100 : Int32))) + (1 : Int32)).toNatClampNeg it) 30 0 (((3 : Int32) * ((σ.1 15 0 18) - (σ.1 15 0 18) / (100 : Int32) * (100 : Int32))) + (2 : Int32)).toNatClampNeg n) 15 0 18 (((xuI (xuI (xuI σ 30 0 ((3 : Int32) * ((σ.1 15 0 18) - (σ.1 15 0 18) / (100 : Int32) * (100 : Int32))).toNatClampNeg v) 30 0 (((3 : Int32) * ((σ.1 15 0 18) - (σ.1 15 0 18) / (100 : Int32) * (100 : Int32))) + (1 : Int32)).toNatClampNeg it) 30 0 (((3 : Int32) * ((σ.1 15 0 18) - (σ.1 15 0 18) / (100 : Int32) * (100 : Int32))) + (2 : Int32)).toNatClampNeg n).1 15 0 18) + (1 : Int32)))) hx hb hts hi_MO t_MO t_MO_ok n_MO hown hK xInj hX hS (xA_in _ _ _) (by decide) rfl rfl 18 (by decide) (hts _ w_613) rfl rfl rfl rfl (Nat.le_of_ble_eq_true rfl) ((xe_uI dA (xB s0) (xuI (xuI (xuI σ 30 0 ((3 : Int32) * ((σ.1 15 0 18) - (σ.1 15 0 18) / (100 : Int32) * (100 : Int32))).toNatClampNeg v) 30 0 (((3 : Int32) * ((σ.1 15 0 18) - (σ.1 15 0 18) / (100 : Int32) * (100 : Int32))) + (1 : Int32)).toNatClampNeg it) 30 0 (((3 : Int32) * ((σ.1 15 0 18) - (σ.1 15 0 18) / (100 : Int32) * (100 : Int32))) + (2 : Int32)).toNatClampNeg n) 15 0 18 (((xuI (xuI (xuI σ 30 0 ((3 : Int32) * ((σ.1 15 0 18) - (σ.1 15 0 18) / (100 : Int32) * (100 : Int32))).toNatClampNeg v) 30 0 (((3 : Int32) * ((σ.1 15 0 18) - (σ.1 15 0 18) / (100 : Int32) * (100 : Int32))) + (1 : Int32)).toNatClampNeg it) 30 0 (((3 : Int32) * ((σ.1 15 0 18) - (σ.1 15 0 18) / (100 : Int32) * (100 : Int32))) + (2 : Int32)).toNatClampNeg n).1 15 0 18) + (1 : Int32))).trans rfl) (xe_oI dA (xB s0) (xuI (xuI (xuI σ 30 0 ((3 : Int32) * ((σ.1 15 0 18) - (σ.1 15 0 18) / (100 : Int32) * (100 : Int32))).toNatClampNeg v) 30 0 (((3 : Int32) * ((σ.1 15 0 18) - (σ.1 15 0 18) / (100 : Int32) * (100 : Int32))) + (1 : Int32)).toNatClampNeg it) 30 0 (((3 : Int32) * ((σ.1 15 0 18) - (σ.1 15 0 18) / (100 : Int32) * (100 : Int32))) + (2 : Int32)).toNatClampNeg n) 15 0 18 (((xuI (xuI (xuI σ 30 0 ((3 : Int32) * ((σ.1 15 0 18) - (σ.1 15 0 18) / (100 : Int32) * (100 : Int32))).toNatClampNeg v) 30 0 (((3 : Int32) * ((σ.1 15 0 18) - (σ.1 15 0 18) / (100 : Int32) * (100 : Int32))) + (1 : Int32)).toNatClampNeg it) 30 0 (((3 : Int32) * ((σ.1 15 0 18) - (σ.1 15 0 18) / (100 : Int32) * (100 : Int32))) + (2 : Int32)).toNatClampNeg n).1 15 0 18) + (1 : Int32))) d_MO_tell_46 (fun H locs hX hS => ?_)
  subst hR
  refine W.widen (k := 0) (n := 0) (by decide) (by decide) ?_; exact xs_v hx hb hr hlocks hX hS d_MO_tell_49
