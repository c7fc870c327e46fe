abbrev rm_MO_ends : Room := { frames := 2, cells := 0, slots := 0, locals := 43 }
def S_MO_ends (σ : XS) (v : Int32) (it : Int32) (d : Int32) : Unit × XS := (if (S_MO_isVehicle σ v) = 0 then (if (S_MO_in σ d (-1 : Int32) (9999 : Int32)) = 0 then ((), (S_MO_throwing σ (1 : Int32) (1 : Int32) (0 : Int32) (0 : Int32)).2) else ((), (S_MO_throwing σ (1 : Int32) (0 : Int32) (0 : Int32) (0 : Int32)).2)) else (if (S_MO_isItem σ it) = 0 then (if (S_MO_in σ d (-1 : Int32) (9999 : Int32)) = 0 then ((), (S_MO_throwing σ (1 : Int32) (1 : Int32) (0 : Int32) (0 : Int32)).2) else ((), (S_MO_throwing σ (1 : Int32) (0 : Int32) (0 : Int32) (0 : Int32)).2)) else (if (S_MO_in σ d (-1 : Int32) (9999 : Int32)) = 0 then ((), (S_MO_throwing σ (0 : Int32) (1 : Int32) (0 : Int32) (0 : Int32)).2) else ((), (xuI (S_MO_throwing σ (0 : Int32) (0 : Int32) (0 : Int32) (0 : Int32)).2 26 0 (((30 : Int32) * v) + it).toNatClampNeg d)))))
set_option maxHeartbeats 4000000 in
set_option maxRecDepth 100000 in
theorem c_MO_ends {l : Launch} {s0 : State} {A0 : Array Value} {D : va_G} {dA : Nat → ClassId} (h0 : XS0 l s0 A0 D dA) (σ : XS) (v : Int32) (it : Int32) (d : Int32) (hok : MOk σ) : XMet l y_MO_ends [cw_MO_ends] rm_MO_ends (XP D dA s0 σ [.ref (xB s0 + XA 15 0), .int v, .int it, .int d]) (XQs D dA s0 xv_v (.inl (S_MO_ends σ v it d))) 0 0 (xAm s0) := by
  refine XMet.ofW (cc := b_MO_ends) (maxL := 4) (ret := none) (by decide) rfl ?_
  intro p e s m args below meth c s₁ Bd hml hvA
  obtain ⟨rfl, hX, hO⟩ := hvA
  have hx := Bd.exec
  have hb := Bd.bytes
  have hr := Bd.returns
  have hown : s.vm.findClass "LoadChecksModel" = some m.cls := findClass_of_methodNamed Bd.named
  have hlocks := Bd.notSynchronized
  have hnt : c.exceptionTable.isEmpty = true := Bd.noHandlers (atoms_spec (ws := [cw_MO_ends]) Bd.pre _ List.mem_cons_self)
  have hW0 := hO.1
  have hts := xs_w (args := ([.ref (xB s0 + XA 15 0), .int v, .int it, .int d] : List Value).toArray) h0 hW0
  have hK := xs_K h0 hW0
  have hS := xo_S0 hO
  have hl := lv_entry ([.ref (xB s0 + XA 15 0), .int v, .int it, .int d]) (n := 4) (Nat.le_of_ble_eq_true rfl)
  rw [lg_entry_eq]
  generalize (lg_sl ([.ref (xB s0 + XA 15 0), .int v, .int it, .int d]) ++ List.replicate (4 - (lg_sl ([.ref (xB s0 + XA 15 0), .int v, .int it, .int d])).length) Slot.unset).toArray = ls at hl ⊢
  have hl : lv_has ls 4 [(0, .ref (xB s0 + XA 15 0)), (1, .int v), (2, .int it), (3, .int d)] := hl
  generalize hR : S_MO_ends σ v it d = res
  unfold S_MO_ends at hR
  refine lv_aload_n hx hb d_MO_ends_0 rfl (lv_at hl 0 rfl) ?_
  refine lv_aload_n hx hb d_MO_ends_1 rfl (lv_at hl 0 rfl) ?_
  refine lv_iload_n hx hb d_MO_ends_2 rfl (lv_at hl 1 rfl) ?_
  obtain ⟨cB3, hcB3, hoB3, hkB3⟩ := xw_recv (r := 15) (i := 0) hK hX (by decide) rfl rfl
  refine xc_f (rest := [.ref (xB s0 + XA 15 0)]) (x_invV (argsL := [.int v]) hx hb hown (hts _ w_679) (hts _ w_681) (hts _ w_21) (x_code (hts _ w_682)) ⟨by decide, by decide⟩ hcB3 hoB3 hkB3 rfl rfl rfl d_MO_ends_3) (c_MO_isVehicle h0 σ v) (xs_cw h0 hW0 m_682) (hts _ w_38) ⟨rfl, rfl, Nat.le_of_ble_eq_true rfl, Nat.le_of_ble_eq_true rfl⟩ (hl.1.trans hml.symm) (by rw [hb]; exact d_MO_ends_3) (Nat.le_of_ble_eq_true rfl) ⟨Nat.le_of_ble_eq_true rfl, Nat.le_of_ble_eq_true rfl⟩ hX ⟨hW0, xo_S hS⟩ ?_
  refine lv_if_eq (tgt := 16) hx hb d_MO_ends_6 (by decide) (fun c6 => ?_) (fun c6 => ?_)
  · rw [if_pos c6] at hR
    refine lv_iconst (v := 1) hx hb d_MO_ends_16 (by decide) ?_
    refine lv_goto (tgt := 21) hx hb d_MO_ends_17 (by decide) ?_
    refine lv_iload_n hx hb d_MO_ends_21 rfl (lv_at hl 3 rfl) ?_
    refine lv_iconst (v := -1) hx hb d_MO_ends_22 (by decide) ?_
    refine lv_sipush (v := 9999) hx hb d_MO_ends_23 (by decide) ?_
    refine xc_f (rest := [.int (1 : Int32), .ref (xB s0 + XA 15 0)]) (x_invS (argsL := [.int d, .int (-1 : Int32), .int (9999 : Int32)]) hx hb hown (hts _ w_664) (hts _ w_665) (hts _ w_38) (x_code (hts _ w_666)) ⟨by decide, by decide⟩ rfl rfl rfl d_MO_ends_26) (c_MO_in h0 σ d (-1 : Int32) (9999 : Int32)) (xs_cw h0 hW0 m_666) (hts _ w_38) ⟨rfl, rfl, Nat.le_of_ble_eq_true rfl, Nat.le_of_ble_eq_true rfl⟩ (hl.1.trans hml.symm) (by rw [hb]; exact d_MO_ends_26) (Nat.le_of_ble_eq_true rfl) ⟨Nat.le_of_ble_eq_true rfl, Nat.le_of_ble_eq_true rfl⟩ hX ⟨hW0, xo_S hS⟩ ?_
    refine lv_if_ne (tgt := 36) hx hb d_MO_ends_29 (by decide) (fun c29 => ?_) (fun c29 => ?_)
    · rw [if_neg c29] at hR
      refine lv_iconst (v := 0) hx hb d_MO_ends_36 (by decide) ?_
      refine lv_iconst (v := 0) hx hb d_MO_ends_37 (by decide) ?_
      refine lv_iconst (v := 0) hx hb d_MO_ends_38 (by decide) ?_
      obtain ⟨cB39, hcB39, hoB39, hkB39⟩ := xw_recv (r := 15) (i := 0) hK hX (by decide) rfl rfl
      refine xc_s (rest := []) (x_invV (argsL := [.int (1 : Int32), .int (0 : Int32), .int (0 : Int32), .int (0 : Int32)]) hx hb hown (hts _ w_671) (hts _ w_673) (hts _ w_20) (x_code (hts _ w_674)) ⟨by decide, by decide⟩ hcB39 hoB39 hkB39 rfl rfl rfl d_MO_ends_39) (c_MO_throwing h0 σ (1 : Int32) (0 : Int32) (0 : Int32) (0 : Int32)) (xs_cw h0 hW0 m_674) (hts _ w_38) ⟨rfl, rfl, Nat.le_of_ble_eq_true rfl, Nat.le_of_ble_eq_true rfl⟩ (hl.1.trans hml.symm) (by rw [hb]; exact d_MO_ends_39) (Nat.le_of_ble_eq_true rfl) ⟨Nat.le_of_ble_eq_true rfl, Nat.le_of_ble_eq_true rfl⟩ hX hW0 hS (fun v39 σ39 H locs hM39 hX hS => ?_) (fun E x H1 locs1 hM => by cases hM)
      obtain ⟨ev39, es39⟩ := x_inl hM39
      subst es39
      subst ev39
      refine lv_if_eq (tgt := 46) hx hb d_MO_ends_42 (by decide) (fun c42 => ?_) (fun c42 => ?_)
      · exact absurd c42 (thr_n1 (by decide))
      · subst hR
        refine W.widen (k := 0) (n := 0) (by decide) (by decide) ?_; exact xs_v hx hb hr hlocks hX hS d_MO_ends_45
    · rw [if_pos c29] at hR
      refine lv_iconst (v := 1) hx hb d_MO_ends_32 (by decide) ?_
      refine lv_goto (tgt := 37) hx hb d_MO_ends_33 (by decide) ?_
      refine lv_iconst (v := 0) hx hb d_MO_ends_37 (by decide) ?_
      refine lv_iconst (v := 0) hx hb d_MO_ends_38 (by decide) ?_
      obtain ⟨cB39, hcB39, hoB39, hkB39⟩ := xw_recv (r := 15) (i := 0) hK hX (by decide) rfl rfl
      refine xc_s (rest := []) (x_invV (argsL := [.int (1 : Int32), .int (1 : Int32), .int (0 : Int32), .int (0 : Int32)]) hx hb hown (hts _ w_671) (hts _ w_673) (hts _ w_20) (x_code (hts _ w_674)) ⟨by decide, by decide⟩ hcB39 hoB39 hkB39 rfl rfl rfl d_MO_ends_39) (c_MO_throwing h0 σ (1 : Int32) (1 : Int32) (0 : Int32) (0 : Int32)) (xs_cw h0 hW0 m_674) (hts _ w_38) ⟨rfl, rfl, Nat.le_of_ble_eq_true rfl, Nat.le_of_ble_eq_true rfl⟩ (hl.1.trans hml.symm) (by rw [hb]; exact d_MO_ends_39) (Nat.le_of_ble_eq_true rfl) ⟨Nat.le_of_ble_eq_true rfl, Nat.le_of_ble_eq_true rfl⟩ hX hW0 hS (fun v39 σ39 H locs hM39 hX hS => ?_) (fun E x H1 locs1 hM => by cases hM)
      obtain ⟨ev39, es39⟩ := x_inl hM39
      subst es39
      subst ev39
      refine lv_if_eq (tgt := 46) hx hb d_MO_ends_42 (by decide) (fun c42 => ?_) (fun c42 => ?_)
      · exact absurd c42 (thr_n1 (by decide))
      · subst hR
        refine W.widen (k := 0) (n := 0) (by decide) (by decide) ?_; exact xs_v hx hb hr hlocks hX hS d_MO_ends_45
  · rw [if_neg c6] at hR
    refine lv_iload_n hx hb d_MO_ends_9 rfl (lv_at hl 2 rfl) ?_
    refine xc_f (rest := [.ref (xB s0 + XA 15 0)]) (x_invS (argsL := [.int it]) hx hb hown (hts _ w_698) (hts _ w_699) (hts _ w_38) (x_code (hts _ w_700)) ⟨by decide, by decide⟩ rfl rfl rfl d_MO_ends_10) (c_MO_isItem h0 σ it) (xs_cw h0 hW0 m_700) (hts _ w_38) ⟨rfl, rfl, Nat.le_of_ble_eq_true rfl, Nat.le_of_ble_eq_true rfl⟩ (hl.1.trans hml.symm) (by rw [hb]; exact d_MO_ends_10) (Nat.le_of_ble_eq_true rfl) ⟨Nat.le_of_ble_eq_true rfl, Nat.le_of_ble_eq_true rfl⟩ hX ⟨hW0, xo_S hS⟩ ?_
    refine lv_if_ne (tgt := 20) hx hb d_MO_ends_13 (by decide) (fun c13 => ?_) (fun c13 => ?_)
    · rw [if_neg c13] at hR
      have hv := m_veh hok c6
      have hi := m_item c13
      refine lv_iconst (v := 0) hx hb d_MO_ends_20 (by decide) ?_
      refine lv_iload_n hx hb d_MO_ends_21 rfl (lv_at hl 3 rfl) ?_
      refine lv_iconst (v := -1) hx hb d_MO_ends_22 (by decide) ?_
      refine lv_sipush (v := 9999) hx hb d_MO_ends_23 (by decide) ?_
      refine xc_f (rest := [.int (0 : Int32), .ref (xB s0 + XA 15 0)]) (x_invS (argsL := [.int d, .int (-1 : Int32), .int (9999 : Int32)]) hx hb hown (hts _ w_664) (hts _ w_665) (hts _ w_38) (x_code (hts _ w_666)) ⟨by decide, by decide⟩ rfl rfl rfl d_MO_ends_26) (c_MO_in h0 σ d (-1 : Int32) (9999 : Int32)) (xs_cw h0 hW0 m_666) (hts _ w_38) ⟨rfl, rfl, Nat.le_of_ble_eq_true rfl, Nat.le_of_ble_eq_true rfl⟩ (hl.1.trans hml.symm) (by rw [hb]; exact d_MO_ends_26) (Nat.le_of_ble_eq_true rfl) ⟨Nat.le_of_ble_eq_true rfl, Nat.le_of_ble_eq_true rfl⟩ hX ⟨hW0, xo_S hS⟩ ?_
      refine lv_if_ne (tgt := 36) hx hb d_MO_ends_29 (by decide) (fun c29 => ?_) (fun c29 => ?_)
      · rw [if_neg c29] at hR
        refine lv_iconst (v := 0) hx hb d_MO_ends_36 (by decide) ?_
        refine lv_iconst (v := 0) hx hb d_MO_ends_37 (by decide) ?_
        refine lv_iconst (v := 0) hx hb d_MO_ends_38 (by decide) ?_
        obtain ⟨cB39, hcB39, hoB39, hkB39⟩ := xw_recv (r := 15) (i := 0) hK hX (by decide) rfl rfl
        refine xc_s (rest := []) (x_invV (argsL := [.int (0 : Int32), .int (0 : Int32), .int (0 : Int32), .int (0 : Int32)]) hx hb hown (hts _ w_671) (hts _ w_673) (hts _ w_20) (x_code (hts _ w_674)) ⟨by decide, by decide⟩ hcB39 hoB39 hkB39 rfl rfl rfl d_MO_ends_39) (c_MO_throwing h0 σ (0 : Int32) (0 : Int32) (0 : Int32) (0 : Int32)) (xs_cw h0 hW0 m_674) (hts _ w_38) ⟨rfl, rfl, Nat.le_of_ble_eq_true rfl, Nat.le_of_ble_eq_true rfl⟩ (hl.1.trans hml.symm) (by rw [hb]; exact d_MO_ends_39) (Nat.le_of_ble_eq_true rfl) ⟨Nat.le_of_ble_eq_true rfl, Nat.le_of_ble_eq_true rfl⟩ hX hW0 hS (fun v39 σ39 H locs hM39 hX hS => ?_) (fun E x H1 locs1 hM => by cases hM)
        obtain ⟨ev39, es39⟩ := x_inl hM39
        subst es39
        subst ev39
        refine lv_if_eq (tgt := 46) hx hb d_MO_ends_42 (by decide) (fun c42 => ?_) (fun c42 => ?_)
        · refine lv_aload_n hx hb d_MO_ends_46 rfl (lv_at hl 0 rfl) ?_
          refine xw_get (C := R_MO) (T := F_MO) (N := 20) (r := 15) (i := 0) hx hb hts hi_MO hown hK hX (by decide) rfl rfl 14 (by decide) (hts _ w_609) rfl rfl d_MO_ends_47 ?_
          refine lv_bipush (v := 30) hx hb d_MO_ends_50 (by decide) ?_
          refine lv_iload_n hx hb d_MO_ends_52 rfl (lv_at hl 1 rfl) ?_
          refine lv_imul hx hb d_MO_ends_53 ?_
          refine lv_iload_n hx hb d_MO_ends_54 rfl (lv_at hl 2 rfl) ?_
          refine lv_iadd hx hb d_MO_ends_55 ?_
          refine lv_iload_n hx hb d_MO_ends_56 rfl (lv_at hl 3 rfl) ?_
          refine xw_iast (r := 26) (i := 0) (ent' := XE dA (xB s0) (xuI (S_MO_throwing σ (0 : Int32) (0 : Int32) (0 : Int32) (0 : Int32)).2 26 0 (((30 : Int32) * v) + it).toNatClampNeg d)) hx hb hK xInj hX hS (xA_in _ _ _) (by decide) 0 rfl rfl (j := (((30 : Int32) * v) + it)) (o_30 hv hi) ((xe_uI dA (xB s0) ((S_MO_throwing σ (0 : Int32) (0 : Int32) (0 : Int32) (0 : Int32)).2) 26 0 (((30 : Int32) * v) + it).toNatClampNeg d).trans rfl) (xe_oI dA (xB s0) ((S_MO_throwing σ (0 : Int32) (0 : Int32) (0 : Int32) (0 : Int32)).2) 26 0 (((30 : Int32) * v) + it).toNatClampNeg d) d_MO_ends_57 (fun H locs hX hS => ?_)
          subst hR
          refine W.widen (k := 0) (n := 0) (by decide) (by decide) ?_; exact xs_v hx hb hr hlocks hX hS d_MO_ends_58
        · exact absurd thr_z c42
      · rw [if_pos c29] at hR
        refine lv_iconst (v := 1) hx hb d_MO_ends_32 (by decide) ?_
        refine lv_goto (tgt := 37) hx hb d_MO_ends_33 (by decide) ?_
        refine lv_iconst (v := 0) hx hb d_MO_ends_37 (by decide) ?_
        refine lv_iconst (v := 0) hx hb d_MO_ends_38 (by decide) ?_
        obtain ⟨cB39, hcB39, hoB39, hkB39⟩ := xw_recv (r := 15) (i := 0) hK hX (by decide) rfl rfl
        refine xc_s (rest := []) (x_invV (argsL := [.int (0 : Int32), .int (1 : Int32), .int (0 : Int32), .int (0 : Int32)]) hx hb hown (hts _ w_671) (hts _ w_673) (hts _ w_20) (x_code (hts _ w_674)) ⟨by decide, by decide⟩ hcB39 hoB39 hkB39 rfl rfl rfl d_MO_ends_39) (c_MO_throwing h0 σ (0 : Int32) (1 : Int32) (0 : Int32) (0 : Int32)) (xs_cw h0 hW0 m_674) (hts _ w_38) ⟨rfl, rfl, Nat.le_of_ble_eq_true rfl, Nat.le_of_ble_eq_true rfl⟩ (hl.1.trans hml.symm) (by rw [hb]; exact d_MO_ends_39) (Nat.le_of_ble_eq_true rfl) ⟨Nat.le_of_ble_eq_true rfl, Nat.le_of_ble_eq_true rfl⟩ hX hW0 hS (fun v39 σ39 H locs hM39 hX hS => ?_) (fun E x H1 locs1 hM => by cases hM)
        obtain ⟨ev39, es39⟩ := x_inl hM39
        subst es39
        subst ev39
        refine lv_if_eq (tgt := 46) hx hb d_MO_ends_42 (by decide) (fun c42 => ?_) (fun c42 => ?_)
        · exact absurd c42 (thr_n2 (by decide))
        · subst hR
          refine W.widen (k := 0) (n := 0) (by decide) (by decide) ?_; exact xs_v hx hb hr hlocks hX hS d_MO_ends_45
    · rw [if_pos c13] at hR
      refine lv_iconst (v := 1) hx hb d_MO_ends_16 (by decide) ?_
      refine lv_goto (tgt := 21) hx hb d_MO_ends_17 (by decide) ?_
      refine lv_iload_n hx hb d_MO_ends_21 rfl (lv_at hl 3 rfl) ?_
      refine lv_iconst (v := -1) hx hb d_MO_ends_22 (by decide) ?_
      refine lv_sipush (v := 9999) hx hb d_MO_ends_23 (by decide) ?_
      refine xc_f (rest := [.int (1 : Int32), .ref (xB s0 + XA 15 0)]) (x_invS (argsL := [.int d, .int (-1 : Int32), .int (9999 : Int32)]) hx hb hown (hts _ w_664) (hts _ w_665) (hts _ w_38) (x_code (hts _ w_666)) ⟨by decide, by decide⟩ rfl rfl rfl d_MO_ends_26) (c_MO_in h0 σ d (-1 : Int32) (9999 : Int32)) (xs_cw h0 hW0 m_666) (hts _ w_38) ⟨rfl, rfl, Nat.le_of_ble_eq_true rfl, Nat.le_of_ble_eq_true rfl⟩ (hl.1.trans hml.symm) (by rw [hb]; exact d_MO_ends_26) (Nat.le_of_ble_eq_true rfl) ⟨Nat.le_of_ble_eq_true rfl, Nat.le_of_ble_eq_true rfl⟩ hX ⟨hW0, xo_S hS⟩ ?_
      refine lv_if_ne (tgt := 36) hx hb d_MO_ends_29 (by decide) (fun c29 => ?_) (fun c29 => ?_)
      · rw [if_neg c29] at hR
        refine lv_iconst (v := 0) hx hb d_MO_ends_36 (by decide) ?_
        refine lv_iconst (v := 0) hx hb d_MO_ends_37 (by decide) ?_
        refine lv_iconst (v := 0) hx hb d_MO_ends_38 (by decide) ?_
        obtain ⟨cB39, hcB39, hoB39, hkB39⟩ := xw_recv (r := 15) (i := 0) hK hX (by decide) rfl rfl
        refine xc_s (rest := []) (x_invV (argsL := [.int (1 : Int32), .int (0 : Int32), .int (0 : Int32), .int (0 : Int32)]) hx hb hown (hts _ w_671) (hts _ w_673) (hts _ w_20) (x_code (hts _ w_674)) ⟨by decide, by decide⟩ hcB39 hoB39 hkB39 rfl rfl rfl d_MO_ends_39) (c_MO_throwing h0 σ (1 : Int32) (0 : Int32) (0 : Int32) (0 : Int32)) (xs_cw h0 hW0 m_674) (hts _ w_38) ⟨rfl, rfl, Nat.le_of_ble_eq_true rfl, Nat.le_of_ble_eq_true rfl⟩ (hl.1.trans hml.symm) (by rw [hb]; exact d_MO_ends_39) (Nat.le_of_ble_eq_true rfl) ⟨Nat.le_of_ble_eq_true rfl, Nat.le_of_ble_eq_true rfl⟩ hX hW0 hS (fun v39 σ39 H locs hM39 hX hS => ?_) (fun E x H1 locs1 hM => by cases hM)
        obtain ⟨ev39, es39⟩ := x_inl hM39
        subst es39
        subst ev39
        refine lv_if_eq (tgt := 46) hx hb d_MO_ends_42 (by decide) (fun c42 => ?_) (fun c42 => ?_)
        · exact absurd c42 (thr_n1 (by decide))
        · subst hR
          refine W.widen (k := 0) (n := 0) (by decide) (by decide) ?_; exact xs_v hx hb hr hlocks hX hS d_MO_ends_45
      · rw [if_pos c29] at hR
        refine lv_iconst (v := 1) hx hb d_MO_ends_32 (by decide) ?_
        refine lv_goto (tgt := 37) hx hb d_MO_ends_33 (by decide) ?_
        refine lv_iconst (v := 0) hx hb d_MO_ends_37 (by decide) ?_
        refine lv_iconst (v := 0) hx hb d_MO_ends_38 (by decide) ?_
        obtain ⟨cB39, hcB39, hoB39, hkB39⟩ := xw_recv (r := 15) (i := 0) hK hX (by decide) rfl rfl
        refine xc_s (rest := []) (x_invV (argsL := [.int (1 : Int32), .int (1 : Int32), .int (0 : Int32), .int (0 : Int32)]) hx hb hown (hts _ w_671) (hts _ w_673) (hts _ w_20) (x_code (hts _ w_674)) ⟨by decide, by decide⟩ hcB39 hoB39 hkB39 rfl rfl rfl d_MO_ends_39) (c_MO_throwing h0 σ (1 : Int32) (1 : Int32) (0 : Int32) (0 : Int32)) (xs_cw h0 hW0 m_674) (hts _ w_38) ⟨rfl, rfl, Nat.le_of_ble_eq_true rfl, Nat.le_of_ble_eq_true rfl⟩ (hl.1.trans hml.symm) (by rw [hb]; exact d_MO_ends_39) (Nat.le_of_ble_eq_true rfl) ⟨Nat.le_of_ble_eq_true rfl, Nat.le_of_ble_eq_true rfl⟩ hX hW0 hS (fun v39 σ39 H locs hM39 hX hS => ?_) (fun E x H1 locs1 hM => by cases hM)
        obtain ⟨ev39, es39⟩ := x_inl hM39
        subst es39
        subst ev39
        refine lv_if_eq (tgt := 46) hx hb d_MO_ends_42 (by decide) (fun c42 => ?_) (fun c42 => ?_)
        · exact absurd c42 (thr_n1 (by decide))
        · subst hR
          refine W.widen (k := 0) (n := 0) (by decide) (by decide) ?_; exact xs_v hx hb hr hlocks hX hS d_MO_ends_45

abbrev rm_MO_battery : Room := { frames := 2, cells := 0, slots := 0, locals := 43 }
def S_MO_battery (σ : XS) (v : Int32) (it : Int32) (d : Int32) : Unit × XS := (if (S_MO_isVehicle σ v) = 0 then (if (S_MO_in σ d (0 : Int32) (100 : Int32)) = 0 then ((), (S_MO_throwing σ (1 : Int32) (1 : Int32) (0 : Int32) (0 : Int32)).2) else ((), (S_MO_throwing σ (1 : Int32) (0 : Int32) (0 : Int32) (0 : Int32)).2)) else (if (S_MO_isItem σ it) = 0 then (if (S_MO_in σ d (0 : Int32) (100 : Int32)) = 0 then ((), (S_MO_throwing σ (1 : Int32) (1 : Int32) (0 : Int32) (0 : Int32)).2) else ((), (S_MO_throwing σ (1 : Int32) (0 : Int32) (0 : Int32) (0 : Int32)).2)) else (if (S_MO_in σ d (0 : Int32) (100 : Int32)) = 0 then ((), (S_MO_throwing σ (0 : Int32) (1 : Int32) (0 : Int32) (0 : Int32)).2) else ((), (xuI (S_MO_throwing σ (0 : Int32) (0 : Int32) (0 : Int32) (0 : Int32)).2 27 0 (((30 : Int32) * v) + it).toNatClampNeg d)))))
set_option maxHeartbeats 4000000 in
set_option maxRecDepth 100000 in
theorem c_MO_battery {l : Launch} {s0 : State} {A0 : Array Value} {D : va_G} {dA : Nat → ClassId} (h0 : XS0 l s0 A0 D dA) (σ : XS) (v : Int32) (it : Int32) (d : Int32) (hok : MOk σ) : XMet l y_MO_battery [cw_MO_battery] rm_MO_battery (XP D dA s0 σ [.ref (xB s0 + XA 15 0), .int v, .int it, .int d]) (XQs D dA s0 xv_v (.inl (S_MO_battery σ v it d))) 0 0 (xAm s0) := by
  refine XMet.ofW (cc := b_MO_battery) (maxL := 4) (ret := none) (by decide) rfl ?_
  intro p e s m args below meth c s₁ Bd hml hvA
  obtain ⟨rfl, hX, hO⟩ := hvA
  have hx := Bd.exec
  have hb := Bd.bytes
  have hr := Bd.returns
  have hown : s.vm.findClass "LoadChecksModel" = some m.cls := findClass_of_methodNamed Bd.named
  have hlocks := Bd.notSynchronized
  have hnt : c.exceptionTable.isEmpty = true := Bd.noHandlers (atoms_spec (ws := [cw_MO_battery]) Bd.pre _ List.mem_cons_self)
  have hW0 := hO.1
  have hts := xs_w (args := ([.ref (xB s0 + XA 15 0), .int v, .int it, .int d] : List Value).toArray) h0 hW0
  have hK := xs_K h0 hW0
  have hS := xo_S0 hO
  have hl := lv_entry ([.ref (xB s0 + XA 15 0), .int v, .int it, .int d]) (n := 4) (Nat.le_of_ble_eq_true rfl)
  rw [lg_entry_eq]
  generalize (lg_sl ([.ref (xB s0 + XA 15 0), .int v, .int it, .int d]) ++ List.replicate (4 - (lg_sl ([.ref (xB s0 + XA 15 0), .int v, .int it, .int d])).length) Slot.unset).toArray = ls at hl ⊢
  have hl : lv_has ls 4 [(0, .ref (xB s0 + XA 15 0)), (1, .int v), (2, .int it), (3, .int d)] := hl
  generalize hR : S_MO_battery σ v it d = res
  unfold S_MO_battery at hR
  refine lv_aload_n hx hb d_MO_battery_0 rfl (lv_at hl 0 rfl) ?_
  refine lv_aload_n hx hb d_MO_battery_1 rfl (lv_at hl 0 rfl) ?_
  refine lv_iload_n hx hb d_MO_battery_2 rfl (lv_at hl 1 rfl) ?_
  obtain ⟨cB3, hcB3, hoB3, hkB3⟩ := xw_recv (r := 15) (i := 0) hK hX (by decide) rfl rfl
  refine xc_f (rest := [.ref (xB s0 + XA 15 0)]) (x_invV (argsL := [.int v]) hx hb hown (hts _ w_679) (hts _ w_681) (hts _ w_21) (x_code (hts _ w_682)) ⟨by decide, by decide⟩ hcB3 hoB3 hkB3 rfl rfl rfl d_MO_battery_3) (c_MO_isVehicle h0 σ v) (xs_cw h0 hW0 m_682) (hts _ w_38) ⟨rfl, rfl, Nat.le_of_ble_eq_true rfl, Nat.le_of_ble_eq_true rfl⟩ (hl.1.trans hml.symm) (by rw [hb]; exact d_MO_battery_3) (Nat.le_of_ble_eq_true rfl) ⟨Nat.le_of_ble_eq_true rfl, Nat.le_of_ble_eq_true rfl⟩ hX ⟨hW0, xo_S hS⟩ ?_
  refine lv_if_eq (tgt := 16) hx hb d_MO_battery_6 (by decide) (fun c6 => ?_) (fun c6 => ?_)
  · rw [if_pos c6] at hR
    refine lv_iconst (v := 1) hx hb d_MO_battery_16 (by decide) ?_
    refine lv_goto (tgt := 21) hx hb d_MO_battery_17 (by decide) ?_
    refine lv_iload_n hx hb d_MO_battery_21 rfl (lv_at hl 3 rfl) ?_
    refine lv_iconst (v := 0) hx hb d_MO_battery_22 (by decide) ?_
    refine lv_bipush (v := 100) hx hb d_MO_battery_23 (by decide) ?_
    refine xc_f (rest := [.int (1 : Int32), .ref (xB s0 + XA 15 0)]) (x_invS (argsL := [.int d, .int (0 : Int32), .int (100 : Int32)]) hx hb hown (hts _ w_664) (hts _ w_665) (hts _ w_38) (x_code (hts _ w_666)) ⟨by decide, by decide⟩ rfl rfl rfl d_MO_battery_25) (c_MO_in h0 σ d (0 : Int32) (100 : Int32)) (xs_cw h0 hW0 m_666) (hts _ w_38) ⟨rfl, rfl, Nat.le_of_ble_eq_true rfl, Nat.le_of_ble_eq_true rfl⟩ (hl.1.trans hml.symm) (by rw [hb]; exact d_MO_battery_25) (Nat.le_of_ble_eq_true rfl) ⟨Nat.le_of_ble_eq_true rfl, Nat.le_of_ble_eq_true rfl⟩ hX ⟨hW0, xo_S hS⟩ ?_
    refine lv_if_ne (tgt := 35) hx hb d_MO_battery_28 (by decide) (fun c28 => ?_) (fun c28 => ?_)
    · rw [if_neg c28] at hR
      refine lv_iconst (v := 0) hx hb d_MO_battery_35 (by decide) ?_
      refine lv_iconst (v := 0) hx hb d_MO_battery_36 (by decide) ?_
      refine lv_iconst (v := 0) hx hb d_MO_battery_37 (by decide) ?_
      obtain ⟨cB38, hcB38, hoB38, hkB38⟩ := xw_recv (r := 15) (i := 0) hK hX (by decide) rfl rfl
      refine xc_s (rest := []) (x_invV (argsL := [.int (1 : Int32), .int (0 : Int32), .int (0 : Int32), .int (0 : Int32)]) hx hb hown (hts _ w_671) (hts _ w_673) (hts _ w_20) (x_code (hts _ w_674)) ⟨by decide, by decide⟩ hcB38 hoB38 hkB38 rfl rfl rfl d_MO_battery_38) (c_MO_throwing h0 σ (1 : Int32) (0 : Int32) (0 : Int32) (0 : Int32)) (xs_cw h0 hW0 m_674) (hts _ w_38) ⟨rfl, rfl, Nat.le_of_ble_eq_true rfl, Nat.le_of_ble_eq_true rfl⟩ (hl.1.trans hml.symm) (by rw [hb]; exact d_MO_battery_38) (Nat.le_of_ble_eq_true rfl) ⟨Nat.le_of_ble_eq_true rfl, Nat.le_of_ble_eq_true rfl⟩ hX hW0 hS (fun v38 σ38 H locs hM38 hX hS => ?_) (fun E x H1 locs1 hM => by cases hM)
      obtain ⟨ev38, es38⟩ := x_inl hM38
      subst es38
      subst ev38
      refine lv_if_eq (tgt := 45) hx hb d_MO_battery_41 (by decide) (fun c41 => ?_) (fun c41 => ?_)
      · exact absurd c41 (thr_n1 (by decide))
      · subst hR
        refine W.widen (k := 0) (n := 0) (by decide) (by decide) ?_; exact xs_v hx hb hr hlocks hX hS d_MO_battery_44
    · rw [if_pos c28] at hR
      refine lv_iconst (v := 1) hx hb d_MO_battery_31 (by decide) ?_
      refine lv_goto (tgt := 36) hx hb d_MO_battery_32 (by decide) ?_
      refine lv_iconst (v := 0) hx hb d_MO_battery_36 (by decide) ?_
      refine lv_iconst (v := 0) hx hb d_MO_battery_37 (by decide) ?_
      obtain ⟨cB38, hcB38, hoB38, hkB38⟩ := xw_recv (r := 15) (i := 0) hK hX (by decide) rfl rfl
      refine xc_s (rest := []) (x_invV (argsL := [.int (1 : Int32), .int (1 : Int32), .int (0 : Int32), .int (0 : Int32)]) hx hb hown (hts _ w_671) (hts _ w_673) (hts _ w_20) (x_code (hts _ w_674)) ⟨by decide, by decide⟩ hcB38 hoB38 hkB38 rfl rfl rfl d_MO_battery_38) (c_MO_throwing h0 σ (1 : Int32) (1 : Int32) (0 : Int32) (0 : Int32)) (xs_cw h0 hW0 m_674) (hts _ w_38) ⟨rfl, rfl, Nat.le_of_ble_eq_true rfl, Nat.le_of_ble_eq_true rfl⟩ (hl.1.trans hml.symm) (by rw [hb]; exact d_MO_battery_38) (Nat.le_of_ble_eq_true rfl) ⟨Nat.le_of_ble_eq_true rfl, Nat.le_of_ble_eq_true rfl⟩ hX hW0 hS (fun v38 σ38 H locs hM38 hX hS => ?_) (fun E x H1 locs1 hM => by cases hM)
      obtain ⟨ev38, es38⟩ := x_inl hM38
      subst es38
      subst ev38
      refine lv_if_eq (tgt := 45) hx hb d_MO_battery_41 (by decide) (fun c41 => ?_) (fun c41 => ?_)
      · exact absurd c41 (thr_n1 (by decide))
      · subst hR
        refine W.widen (k := 0) (n := 0) (by decide) (by decide) ?_; exact xs_v hx hb hr hlocks hX hS d_MO_battery_44
  · rw [if_neg c6] at hR
    refine lv_iload_n hx hb d_MO_battery_9 rfl (lv_at hl 2 rfl) ?_
    refine xc_f (rest := [.ref (xB s0 + XA 15 0)]) (x_invS (argsL := [.int it]) hx hb hown (hts _ w_698) (hts _ w_699) (hts _ w_38) (x_code (hts _ w_700)) ⟨by decide, by decide⟩ rfl rfl rfl d_MO_battery_10) (c_MO_isItem h0 σ it) (xs_cw h0 hW0 m_700) (hts _ w_38) ⟨rfl, rfl, Nat.le_of_ble_eq_true rfl, Nat.le_of_ble_eq_true rfl⟩ (hl.1.trans hml.symm) (by rw [hb]; exact d_MO_battery_10) (Nat.le_of_ble_eq_true rfl) ⟨Nat.le_of_ble_eq_true rfl, Nat.le_of_ble_eq_true rfl⟩ hX ⟨hW0, xo_S hS⟩ ?_
    refine lv_if_ne (tgt := 20) hx hb d_MO_battery_13 (by decide) (fun c13 => ?_) (fun c13 => ?_)
    · rw [if_neg c13] at hR
      have hv := m_veh hok c6
      have hi := m_item c13
      refine lv_iconst (v := 0) hx hb d_MO_battery_20 (by decide) ?_
      refine lv_iload_n hx hb d_MO_battery_21 rfl (lv_at hl 3 rfl) ?_
      refine lv_iconst (v := 0) hx hb d_MO_battery_22 (by decide) ?_
      refine lv_bipush (v := 100) hx hb d_MO_battery_23 (by decide) ?_
      refine xc_f (rest := [.int (0 : Int32), .ref (xB s0 + XA 15 0)]) (x_invS (argsL := [.int d, .int (0 : Int32), .int (100 : Int32)]) hx hb hown (hts _ w_664) (hts _ w_665) (hts _ w_38) (x_code (hts _ w_666)) ⟨by decide, by decide⟩ rfl rfl rfl d_MO_battery_25) (c_MO_in h0 σ d (0 : Int32) (100 : Int32)) (xs_cw h0 hW0 m_666) (hts _ w_38) ⟨rfl, rfl, Nat.le_of_ble_eq_true rfl, Nat.le_of_ble_eq_true rfl⟩ (hl.1.trans hml.symm) (by rw [hb]; exact d_MO_battery_25) (Nat.le_of_ble_eq_true rfl) ⟨Nat.le_of_ble_eq_true rfl, Nat.le_of_ble_eq_true rfl⟩ hX ⟨hW0, xo_S hS⟩ ?_
      refine lv_if_ne (tgt := 35) hx hb d_MO_battery_28 (by decide) (fun c28 => ?_) (fun c28 => ?_)
      · rw [if_neg c28] at hR
        refine lv_iconst (v := 0) hx hb d_MO_battery_35 (by decide) ?_
        refine lv_iconst (v := 0) hx hb d_MO_battery_36 (by decide) ?_
        refine lv_iconst (v := 0) hx hb d_MO_battery_37 (by decide) ?_
        obtain ⟨cB38, hcB38, hoB38, hkB38⟩ := xw_recv (r := 15) (i := 0) hK hX (by decide) rfl rfl
        refine xc_s (rest := []) (x_invV (argsL := [.int (0 : Int32), .int (0 : Int32), .int (0 : Int32), .int (0 : Int32)]) hx hb hown (hts _ w_671) (hts _ w_673) (hts _ w_20) (x_code (hts _ w_674)) ⟨by decide, by decide⟩ hcB38 hoB38 hkB38 rfl rfl rfl d_MO_battery_38) (c_MO_throwing h0 σ (0 : Int32) (0 : Int32) (0 : Int32) (0 : Int32)) (xs_cw h0 hW0 m_674) (hts _ w_38) ⟨rfl, rfl, Nat.le_of_ble_eq_true rfl, Nat.le_of_ble_eq_true rfl⟩ (hl.1.trans hml.symm) (by rw [hb]; exact d_MO_battery_38) (Nat.le_of_ble_eq_true rfl) ⟨Nat.le_of_ble_eq_true rfl, Nat.le_of_ble_eq_true rfl⟩ hX hW0 hS (fun v38 σ38 H locs hM38 hX hS => ?_) (fun E x H1 locs1 hM => by cases hM)
        obtain ⟨ev38, es38⟩ := x_inl hM38
        subst es38
        subst ev38
        refine lv_if_eq (tgt := 45) hx hb d_MO_battery_41 (by decide) (fun c41 => ?_) (fun c41 => ?_)
        · refine lv_aload_n hx hb d_MO_battery_45 rfl (lv_at hl 0 rfl) ?_
          refine xw_get (C := R_MO) (T := F_MO) (N := 20) (r := 15) (i := 0) hx hb hts hi_MO hown hK hX (by decide) rfl rfl 15 (by decide) (hts _ w_610) rfl rfl d_MO_battery_46 ?_
          refine lv_bipush (v := 30) hx hb d_MO_battery_49 (by decide) ?_
          refine lv_iload_n hx hb d_MO_battery_51 rfl (lv_at hl 1 rfl) ?_
          refine lv_imul hx hb d_MO_battery_52 ?_
          refine lv_iload_n hx hb d_MO_battery_53 rfl (lv_at hl 2 rfl) ?_
          refine lv_iadd hx hb d_MO_battery_54 ?_
          refine lv_iload_n hx hb d_MO_battery_55 rfl (lv_at hl 3 rfl) ?_
          refine xw_iast (r := 27) (i := 0) (ent' := XE dA (xB s0) (xuI (S_MO_throwing σ (0 : Int32) (0 : Int32) (0 : Int32) (0 : Int32)).2 27 0 (((30 : Int32) * v) + it).toNatClampNeg d)) hx hb hK xInj hX hS (xA_in _ _ _) (by decide) 0 rfl rfl (j := (((30 : Int32) * v) + it)) (o_30 hv hi) ((xe_uI dA (xB s0) ((S_MO_throwing σ (0 : Int32) (0 : Int32) (0 : Int32) (0 : Int32)).2) 27 0 (((30 : Int32) * v) + it).toNatClampNeg d).trans rfl) (xe_oI dA (xB s0) ((S_MO_throwing σ (0 : Int32) (0 : Int32) (0 : Int32) (0 : Int32)).2) 27 0 (((30 : Int32) * v) + it).toNatClampNeg d) d_MO_battery_56 (fun H locs hX hS => ?_)
          subst hR
          refine W.widen (k := 0) (n := 0) (by decide) (by decide) ?_; exact xs_v hx hb hr hlocks hX hS d_MO_battery_57
        · exact absurd thr_z c41
      · rw [if_pos c28] at hR
        refine lv_iconst (v := 1) hx hb d_MO_battery_31 (by decide) ?_
        refine lv_goto (tgt := 36) hx hb d_MO_battery_32 (by decide) ?_
        refine lv_iconst (v := 0) hx hb d_MO_battery_36 (by decide) ?_
        refine lv_iconst (v := 0) hx hb d_MO_battery_37 (by decide) ?_
        obtain ⟨cB38, hcB38, hoB38, hkB38⟩ := xw_recv (r := 15) (i := 0) hK hX (by decide) rfl rfl
        refine xc_s (rest := []) (x_invV (argsL := [.int (0 : Int32), .int (1 : Int32), .int (0 : Int32), .int (0 : Int32)]) hx hb hown (hts _ w_671) (hts _ w_673) (hts _ w_20) (x_code (hts _ w_674)) ⟨by decide, by decide⟩ hcB38 hoB38 hkB38 rfl rfl rfl d_MO_battery_38) (c_MO_throwing h0 σ (0 : Int32) (1 : Int32) (0 : Int32) (0 : Int32)) (xs_cw h0 hW0 m_674) (hts _ w_38) ⟨rfl, rfl, Nat.le_of_ble_eq_true rfl, Nat.le_of_ble_eq_true rfl⟩ (hl.1.trans hml.symm) (by rw [hb]; exact d_MO_battery_38) (Nat.le_of_ble_eq_true rfl) ⟨Nat.le_of_ble_eq_true rfl, Nat.le_of_ble_eq_true rfl⟩ hX hW0 hS (fun v38 σ38 H locs hM38 hX hS => ?_) (fun E x H1 locs1 hM => by cases hM)
        obtain ⟨ev38, es38⟩ := x_inl hM38
        subst es38
        subst ev38
        refine lv_if_eq (tgt := 45) hx hb d_MO_battery_41 (by decide) (fun c41 => ?_) (fun c41 => ?_)
        · exact absurd c41 (thr_n2 (by decide))
        · subst hR
          refine W.widen (k := 0) (n := 0) (by decide) (by decide) ?_; exact xs_v hx hb hr hlocks hX hS d_MO_battery_44
    · rw [if_pos c13] at hR
      refine lv_iconst (v := 1) hx hb d_MO_battery_16 (by decide) ?_
      refine lv_goto (tgt := 21) hx hb d_MO_battery_17 (by decide) ?_
      refine lv_iload_n hx hb d_MO_battery_21 rfl (lv_at hl 3 rfl) ?_
      refine lv_iconst (v := 0) hx hb d_MO_battery_22 (by decide) ?_
      refine lv_bipush (v := 100) hx hb d_MO_battery_23 (by decide) ?_
      refine xc_f (rest := [.int (1 : Int32), .ref (xB s0 + XA 15 0)]) (x_invS (argsL := [.int d, .int (0 : Int32), .int (100 : Int32)]) hx hb hown (hts _ w_664) (hts _ w_665) (hts _ w_38) (x_code (hts _ w_666)) ⟨by decide, by decide⟩ rfl rfl rfl d_MO_battery_25) (c_MO_in h0 σ d (0 : Int32) (100 : Int32)) (xs_cw h0 hW0 m_666) (hts _ w_38) ⟨rfl, rfl, Nat.le_of_ble_eq_true rfl, Nat.le_of_ble_eq_true rfl⟩ (hl.1.trans hml.symm) (by rw [hb]; exact d_MO_battery_25) (Nat.le_of_ble_eq_true rfl) ⟨Nat.le_of_ble_eq_true rfl, Nat.le_of_ble_eq_true rfl⟩ hX ⟨hW0, xo_S hS⟩ ?_
      refine lv_if_ne (tgt := 35) hx hb d_MO_battery_28 (by decide) (fun c28 => ?_) (fun c28 => ?_)
      · rw [if_neg c28] at hR
        refine lv_iconst (v := 0) hx hb d_MO_battery_35 (by decide) ?_
        refine lv_iconst (v := 0) hx hb d_MO_battery_36 (by decide) ?_
        refine lv_iconst (v := 0) hx hb d_MO_battery_37 (by decide) ?_
        obtain ⟨cB38, hcB38, hoB38, hkB38⟩ := xw_recv (r := 15) (i := 0) hK hX (by decide) rfl rfl
        refine xc_s (rest := []) (x_invV (argsL := [.int (1 : Int32), .int (0 : Int32), .int (0 : Int32), .int (0 : Int32)]) hx hb hown (hts _ w_671) (hts _ w_673) (hts _ w_20) (x_code (hts _ w_674)) ⟨by decide, by decide⟩ hcB38 hoB38 hkB38 rfl rfl rfl d_MO_battery_38) (c_MO_throwing h0 σ (1 : Int32) (0 : Int32) (0 : Int32) (0 : Int32)) (xs_cw h0 hW0 m_674) (hts _ w_38) ⟨rfl, rfl, Nat.le_of_ble_eq_true rfl, Nat.le_of_ble_eq_true rfl⟩ (hl.1.trans hml.symm) (by rw [hb]; exact d_MO_battery_38) (Nat.le_of_ble_eq_true rfl) ⟨Nat.le_of_ble_eq_true rfl, Nat.le_of_ble_eq_true rfl⟩ hX hW0 hS (fun v38 σ38 H locs hM38 hX hS => ?_) (fun E x H1 locs1 hM => by cases hM)
        obtain ⟨ev38, es38⟩ := x_inl hM38
        subst es38
        subst ev38
        refine lv_if_eq (tgt := 45) hx hb d_MO_battery_41 (by decide) (fun c41 => ?_) (fun c41 => ?_)
        · exact absurd c41 (thr_n1 (by decide))
        · subst hR
          refine W.widen (k := 0) (n := 0) (by decide) (by decide) ?_; exact xs_v hx hb hr hlocks hX hS d_MO_battery_44
      · rw [if_pos c28] at hR
        refine lv_iconst (v := 1) hx hb d_MO_battery_31 (by decide) ?_
        refine lv_goto (tgt := 36) hx hb d_MO_battery_32 (by decide) ?_
        refine lv_iconst (v := 0) hx hb d_MO_battery_36 (by decide) ?_
        refine lv_iconst (v := 0) hx hb d_MO_battery_37 (by decide) ?_
        obtain ⟨cB38, hcB38, hoB38, hkB38⟩ := xw_recv (r := 15) (i := 0) hK hX (by decide) rfl rfl
        refine xc_s (rest := []) (x_invV (argsL := [.int (1 : Int32), .int (1 : Int32), .int (0 : Int32), .int (0 : Int32)]) hx hb hown (hts _ w_671) (hts _ w_673) (hts _ w_20) (x_code (hts _ w_674)) ⟨by decide, by decide⟩ hcB38 hoB38 hkB38 rfl rfl rfl d_MO_battery_38) (c_MO_throwing h0 σ (1 : Int32) (1 : Int32) (0 : Int32) (0 : Int32)) (xs_cw h0 hW0 m_674) (hts _ w_38) ⟨rfl, rfl, Nat.le_of_ble_eq_true rfl, Nat.le_of_ble_eq_true rfl⟩ (hl.1.trans hml.symm) (by rw [hb]; exact d_MO_battery_38) (Nat.le_of_ble_eq_true rfl) ⟨Nat.le_of_ble_eq_true rfl, Nat.le_of_ble_eq_true rfl⟩ hX hW0 hS (fun v38 σ38 H locs hM38 hX hS => ?_) (fun E x H1 locs1 hM => by cases hM)
        obtain ⟨ev38, es38⟩ := x_inl hM38
        subst es38
        subst ev38
        refine lv_if_eq (tgt := 45) hx hb d_MO_battery_41 (by decide) (fun c41 => ?_) (fun c41 => ?_)
        · exact absurd c41 (thr_n1 (by decide))
        · subst hR
          refine W.widen (k := 0) (n := 0) (by decide) (by decide) ?_; exact xs_v hx hb hr hlocks hX hS d_MO_battery_44

abbrev rm_MO_seal : Room := { frames := 2, cells := 0, slots := 0, locals := 43 }
def S_MO_seal (σ : XS) (v : Int32) (cu : Int32) (wh : Int32) : Unit × XS := (if (S_MO_isVehicle σ v) = 0 then ((), (S_MO_throwing σ (1 : Int32) (0 : Int32) (0 : Int32) (0 : Int32)).2) else (if (S_MO_isCupboard σ cu) = 0 then ((), (S_MO_throwing σ (1 : Int32) (0 : Int32) (0 : Int32) (0 : Int32)).2) else (if (σ.1 25 0 (((8 : Int32) * v) + cu).toNatClampNeg) = wh then (if wh = 0 then ((), (xuI (S_MO_throwing σ (0 : Int32) (0 : Int32) (0 : Int32) (0 : Int32)).2 25 0 (((8 : Int32) * v) + cu).toNatClampNeg (vp_nar .boolean (1 : Int32)))) else ((), (xuI (S_MO_throwing σ (0 : Int32) (0 : Int32) (0 : Int32) (0 : Int32)).2 25 0 (((8 : Int32) * v) + cu).toNatClampNeg (vp_nar .boolean (0 : Int32))))) else ((), (S_MO_throwing σ (0 : Int32) (1 : Int32) (0 : Int32) (0 : Int32)).2))))
set_option maxHeartbeats 4000000 in
set_option maxRecDepth 100000 in
theorem c_MO_seal {l : Launch} {s0 : State} {A0 : Array Value} {D : va_G} {dA : Nat → ClassId} (h0 : XS0 l s0 A0 D dA) (σ : XS) (v : Int32) (cu : Int32) (wh : Int32) (hok : MOk σ) : XMet l y_MO_seal [cw_MO_seal] rm_MO_seal (XP D dA s0 σ [.ref (xB s0 + XA 15 0), .int v, .int cu, .int wh]) (XQs D dA s0 xv_v (.inl (S_MO_seal σ v cu wh))) 0 0 (xAm s0) := by
  refine XMet.ofW (cc := b_MO_seal) (maxL := 5) (ret := none) (by decide) rfl ?_
  intro p e s m args below meth c s₁ Bd hml hvA
  obtain ⟨rfl, hX, hO⟩ := hvA
  have hx := Bd.exec
  have hb := Bd.bytes
  have hr := Bd.returns
  have hown : s.vm.findClass "LoadChecksModel" = some m.cls := findClass_of_methodNamed Bd.named
  have hlocks := Bd.notSynchronized
  have hnt : c.exceptionTable.isEmpty = true := Bd.noHandlers (atoms_spec (ws := [cw_MO_seal]) Bd.pre _ List.mem_cons_self)
  have hW0 := hO.1
  have hts := xs_w (args := ([.ref (xB s0 + XA 15 0), .int v, .int cu, .int wh] : List Value).toArray) h0 hW0
  have hK := xs_K h0 hW0
  have hS := xo_S0 hO
  have hl := lv_entry ([.ref (xB s0 + XA 15 0), .int v, .int cu, .int wh]) (n := 5) (Nat.le_of_ble_eq_true rfl)
  rw [lg_entry_eq]
  generalize (lg_sl ([.ref (xB s0 + XA 15 0), .int v, .int cu, .int wh]) ++ List.replicate (5 - (lg_sl ([.ref (xB s0 + XA 15 0), .int v, .int cu, .int wh])).length) Slot.unset).toArray = ls at hl ⊢
  have hl : lv_has ls 5 [(0, .ref (xB s0 + XA 15 0)), (1, .int v), (2, .int cu), (3, .int wh)] := hl
  generalize hR : S_MO_seal σ v cu wh = res
  unfold S_MO_seal at hR
  refine lv_aload_n hx hb d_MO_seal_0 rfl (lv_at hl 0 rfl) ?_
  refine lv_iload_n hx hb d_MO_seal_1 rfl (lv_at hl 1 rfl) ?_
  obtain ⟨cB2, hcB2, hoB2, hkB2⟩ := xw_recv (r := 15) (i := 0) hK hX (by decide) rfl rfl
  refine xc_f (rest := []) (x_invV (argsL := [.int v]) hx hb hown (hts _ w_679) (hts _ w_681) (hts _ w_21) (x_code (hts _ w_682)) ⟨by decide, by decide⟩ hcB2 hoB2 hkB2 rfl rfl rfl d_MO_seal_2) (c_MO_isVehicle h0 σ v) (xs_cw h0 hW0 m_682) (hts _ w_38) ⟨rfl, rfl, Nat.le_of_ble_eq_true rfl, Nat.le_of_ble_eq_true rfl⟩ (hl.1.trans hml.symm) (by rw [hb]; exact d_MO_seal_2) (Nat.le_of_ble_eq_true rfl) ⟨Nat.le_of_ble_eq_true rfl, Nat.le_of_ble_eq_true rfl⟩ hX ⟨hW0, xo_S hS⟩ ?_
  refine lv_if_eq (tgt := 15) hx hb d_MO_seal_5 (by decide) (fun c5 => ?_) (fun c5 => ?_)
  · rw [if_pos c5] at hR
    refine lv_iconst (v := 1) hx hb d_MO_seal_15 (by decide) ?_
    refine lv_goto (tgt := 20) hx hb d_MO_seal_16 (by decide) ?_
    refine lv_istore (lv' := [(4, .int (1 : Int32)), (0, .ref (xB s0 + XA 15 0)), (1, .int v), (2, .int cu), (3, .int wh)]) hx hb d_MO_seal_20 hl (by decide) rfl (fun ls hl => ?_)
    refine lv_aload_n hx hb d_MO_seal_22 rfl (lv_at hl 1 rfl) ?_
    refine lv_iload hx hb d_MO_seal_23 (lv_at hl 0 rfl) ?_
    refine lv_iload hx hb d_MO_seal_25 (lv_at hl 0 rfl) ?_
    refine lv_if_ne (tgt := 49) hx hb d_MO_seal_27 (by decide) (fun c27 => ?_) (fun c27 => ?_)
    · refine lv_iconst (v := 0) hx hb d_MO_seal_49 (by decide) ?_
      refine lv_iconst (v := 0) hx hb d_MO_seal_50 (by decide) ?_
      refine lv_iconst (v := 0) hx hb d_MO_seal_51 (by decide) ?_
      obtain ⟨cB52, hcB52, hoB52, hkB52⟩ := xw_recv (r := 15) (i := 0) hK hX (by decide) rfl rfl
      refine xc_s (rest := []) (x_invV (argsL := [.int (1 : Int32), .int (0 : Int32), .int (0 : Int32), .int (0 : Int32)]) hx hb hown (hts _ w_671) (hts _ w_673) (hts _ w_20) (x_code (hts _ w_674)) ⟨by decide, by decide⟩ hcB52 hoB52 hkB52 rfl rfl rfl d_MO_seal_52) (c_MO_throwing h0 σ (1 : Int32) (0 : Int32) (0 : Int32) (0 : Int32)) (xs_cw h0 hW0 m_674) (hts _ w_38) ⟨rfl, rfl, Nat.le_of_ble_eq_true rfl, Nat.le_of_ble_eq_true rfl⟩ (hl.1.trans hml.symm) (by rw [hb]; exact d_MO_seal_52) (Nat.le_of_ble_eq_true rfl) ⟨Nat.le_of_ble_eq_true rfl, Nat.le_of_ble_eq_true rfl⟩ hX hW0 hS (fun v52 σ52 H locs hM52 hX hS => ?_) (fun E x H1 locs1 hM => by cases hM)
      obtain ⟨ev52, es52⟩ := x_inl hM52
      subst es52
      subst ev52
      refine lv_if_eq (tgt := 59) hx hb d_MO_seal_55 (by decide) (fun c55 => ?_) (fun c55 => ?_)
      · exact absurd c55 (thr_n1 (by decide))
      · subst hR
        refine W.widen (k := 0) (n := 0) (by decide) (by decide) ?_; exact xs_v hx hb hr hlocks hX hS d_MO_seal_58
    · exact absurd c27 (by decide)
  · rw [if_neg c5] at hR
    refine lv_iload_n hx hb d_MO_seal_8 rfl (lv_at hl 2 rfl) ?_
    refine xc_f (rest := []) (x_invS (argsL := [.int cu]) hx hb hown (hts _ w_687) (hts _ w_688) (hts _ w_38) (x_code (hts _ w_689)) ⟨by decide, by decide⟩ rfl rfl rfl d_MO_seal_9) (c_MO_isCupboard h0 σ cu) (xs_cw h0 hW0 m_689) (hts _ w_38) ⟨rfl, rfl, Nat.le_of_ble_eq_true rfl, Nat.le_of_ble_eq_true rfl⟩ (hl.1.trans hml.symm) (by rw [hb]; exact d_MO_seal_9) (Nat.le_of_ble_eq_true rfl) ⟨Nat.le_of_ble_eq_true rfl, Nat.le_of_ble_eq_true rfl⟩ hX ⟨hW0, xo_S hS⟩ ?_
    refine lv_if_ne (tgt := 19) hx hb d_MO_seal_12 (by decide) (fun c12 => ?_) (fun c12 => ?_)
    · rw [if_neg c12] at hR
      have hv := m_veh hok c5
      have hc := m_cup c12
      refine lv_iconst (v := 0) hx hb d_MO_seal_19 (by decide) ?_
      refine lv_istore (lv' := [(4, .int (0 : Int32)), (0, .ref (xB s0 + XA 15 0)), (1, .int v), (2, .int cu), (3, .int wh)]) hx hb d_MO_seal_20 hl (by decide) rfl (fun ls hl => ?_)
      refine lv_aload_n hx hb d_MO_seal_22 rfl (lv_at hl 1 rfl) ?_
      refine lv_iload hx hb d_MO_seal_23 (lv_at hl 0 rfl) ?_
      refine lv_iload hx hb d_MO_seal_25 (lv_at hl 0 rfl) ?_
      refine lv_if_ne (tgt := 49) hx hb d_MO_seal_27 (by decide) (fun c27 => ?_) (fun c27 => ?_)
      · exact absurd (by decide) c27
      · refine lv_aload_n hx hb d_MO_seal_30 rfl (lv_at hl 1 rfl) ?_
        refine xw_get (C := R_MO) (T := F_MO) (N := 20) (r := 15) (i := 0) hx hb hts hi_MO hown hK hX (by decide) rfl rfl 13 (by decide) (hts _ w_608) rfl rfl d_MO_seal_31 ?_
        refine lv_bipush (v := 8) hx hb d_MO_seal_34 (by decide) ?_
        refine lv_iload_n hx hb d_MO_seal_36 rfl (lv_at hl 2 rfl) ?_
        refine lv_imul hx hb d_MO_seal_37 ?_
        refine lv_iload_n hx hb d_MO_seal_38 rfl (lv_at hl 3 rfl) ?_
        refine lv_iadd hx hb d_MO_seal_39 ?_
        refine xw_zald (r := 25) (i := 0) hx hb hK hX (by decide) 1 rfl rfl (j := (((8 : Int32) * v) + cu)) (o_8 hv hc) d_MO_seal_40 ?_
        refine lv_iload_n hx hb d_MO_seal_41 rfl (lv_at hl 4 rfl) ?_
        refine lv_icmp_eq (tgt := 49) hx hb d_MO_seal_42 (by decide) (fun c42 => ?_) (fun c42 => ?_)
        · rw [if_pos c42] at hR
          refine lv_iconst (v := 0) hx hb d_MO_seal_49 (by decide) ?_
          refine lv_iconst (v := 0) hx hb d_MO_seal_50 (by decide) ?_
          refine lv_iconst (v := 0) hx hb d_MO_seal_51 (by decide) ?_
          obtain ⟨cB52, hcB52, hoB52, hkB52⟩ := xw_recv (r := 15) (i := 0) hK hX (by decide) rfl rfl
          refine xc_s (rest := []) (x_invV (argsL := [.int (0 : Int32), .int (0 : Int32), .int (0 : Int32), .int (0 : Int32)]) hx hb hown (hts _ w_671) (hts _ w_673) (hts _ w_20) (x_code (hts _ w_674)) ⟨by decide, by decide⟩ hcB52 hoB52 hkB52 rfl rfl rfl d_MO_seal_52) (c_MO_throwing h0 σ (0 : Int32) (0 : Int32) (0 : Int32) (0 : Int32)) (xs_cw h0 hW0 m_674) (hts _ w_38) ⟨rfl, rfl, Nat.le_of_ble_eq_true rfl, Nat.le_of_ble_eq_true rfl⟩ (hl.1.trans hml.symm) (by rw [hb]; exact d_MO_seal_52) (Nat.le_of_ble_eq_true rfl) ⟨Nat.le_of_ble_eq_true rfl, Nat.le_of_ble_eq_true rfl⟩ hX hW0 hS (fun v52 σ52 H locs hM52 hX hS => ?_) (fun E x H1 locs1 hM => by cases hM)
          obtain ⟨ev52, es52⟩ := x_inl hM52
          subst es52
          subst ev52
          refine lv_if_eq (tgt := 59) hx hb d_MO_seal_55 (by decide) (fun c55 => ?_) (fun c55 => ?_)
          · refine lv_aload_n hx hb d_MO_seal_59 rfl (lv_at hl 1 rfl) ?_
            refine xw_get (C := R_MO) (T := F_MO) (N := 20) (r := 15) (i := 0) hx hb hts hi_MO hown hK hX (by decide) rfl rfl 13 (by decide) (hts _ w_608) rfl rfl d_MO_seal_60 ?_
            refine lv_bipush (v := 8) hx hb d_MO_seal_63 (by decide) ?_
            refine lv_iload_n hx hb d_MO_seal_65 rfl (lv_at hl 2 rfl) ?_
            refine lv_imul hx hb d_MO_seal_66 ?_
            refine lv_iload_n hx hb d_MO_seal_67 rfl (lv_at hl 3 rfl) ?_
            refine lv_iadd hx hb d_MO_seal_68 ?_
            refine lv_iload_n hx hb d_MO_seal_69 rfl (lv_at hl 4 rfl) ?_
            refine lv_if_ne (tgt := 77) hx hb d_MO_seal_70 (by decide) (fun c70 => ?_) (fun c70 => ?_)
            · rw [if_neg c70] at hR
              refine lv_iconst (v := 0) hx hb d_MO_seal_77 (by decide) ?_
              refine xw_zast (r := 25) (i := 0) (ent' := XE dA (xB s0) (xuI (S_MO_throwing σ (0 : Int32) (0 : Int32) (0 : Int32) (0 : Int32)).2 25 0 (((8 : Int32) * v) + cu).toNatClampNeg (vp_nar .boolean (0 : Int32)))) hx hb hK xInj hX hS (xA_in _ _ _) (by decide) 1 rfl rfl (j := (((8 : Int32) * v) + cu)) (o_8 hv hc) ((xe_uI dA (xB s0) ((S_MO_throwing σ (0 : Int32) (0 : Int32) (0 : Int32) (0 : Int32)).2) 25 0 (((8 : Int32) * v) + cu).toNatClampNeg (vp_nar .boolean (0 : Int32))).trans rfl) (xe_oI dA (xB s0) ((S_MO_throwing σ (0 : Int32) (0 : Int32) (0 : Int32) (0 : Int32)).2) 25 0 (((8 : Int32) * v) + cu).toNatClampNeg (vp_nar .boolean (0 : Int32))) d_MO_seal_78 (fun H locs hX hS => ?_)
              subst hR
              refine W.widen (k := 0) (n := 0) (by decide) (by decide) ?_; exact xs_v hx hb hr hlocks hX hS d_MO_seal_79
            · rw [if_pos c70] at hR
              refine lv_iconst (v := 1) hx hb d_MO_seal_73 (by decide) ?_
              refine lv_goto (tgt := 78) hx hb d_MO_seal_74 (by decide) ?_
              refine xw_zast (r := 25) (i := 0) (ent' := XE dA (xB s0) (xuI (S_MO_throwing σ (0 : Int32) (0 : Int32) (0 : Int32) (0 : Int32)).2 25 0 (((8 : Int32) * v) + cu).toNatClampNeg (vp_nar .boolean (1 : Int32)))) hx hb hK xInj hX hS (xA_in _ _ _) (by decide) 1 rfl rfl (j := (((8 : Int32) * v) + cu)) (o_8 hv hc) ((xe_uI dA (xB s0) ((S_MO_throwing σ (0 : Int32) (0 : Int32) (0 : Int32) (0 : Int32)).2) 25 0 (((8 : Int32) * v) + cu).toNatClampNeg (vp_nar .boolean (1 : Int32))).trans rfl) (xe_oI dA (xB s0) ((S_MO_throwing σ (0 : Int32) (0 : Int32) (0 : Int32) (0 : Int32)).2) 25 0 (((8 : Int32) * v) + cu).toNatClampNeg (vp_nar .boolean (1 : Int32))) d_MO_seal_78 (fun H locs hX hS => ?_)
              subst hR
              refine W.widen (k := 0) (n := 0) (by decide) (by decide) ?_; exact xs_v hx hb hr hlocks hX hS d_MO_seal_79
          · exact absurd thr_z c55
        · rw [if_neg c42] at hR
          refine lv_iconst (v := 1) hx hb d_MO_seal_45 (by decide) ?_
          refine lv_goto (tgt := 50) hx hb d_MO_seal_46 (by decide) ?_
          refine lv_iconst (v := 0) hx hb d_MO_seal_50 (by decide) ?_
          refine lv_iconst (v := 0) hx hb d_MO_seal_51 (by decide) ?_
          obtain ⟨cB52, hcB52, hoB52, hkB52⟩ := xw_recv (r := 15) (i := 0) hK hX (by decide) rfl rfl
          refine xc_s (rest := []) (x_invV (argsL := [.int (0 : Int32), .int (1 : Int32), .int (0 : Int32), .int (0 : Int32)]) hx hb hown (hts _ w_671) (hts _ w_673) (hts _ w_20) (x_code (hts _ w_674)) ⟨by decide, by decide⟩ hcB52 hoB52 hkB52 rfl rfl rfl d_MO_seal_52) (c_MO_throwing h0 σ (0 : Int32) (1 : Int32) (0 : Int32) (0 : Int32)) (xs_cw h0 hW0 m_674) (hts _ w_38) ⟨rfl, rfl, Nat.le_of_ble_eq_true rfl, Nat.le_of_ble_eq_true rfl⟩ (hl.1.trans hml.symm) (by rw [hb]; exact d_MO_seal_52) (Nat.le_of_ble_eq_true rfl) ⟨Nat.le_of_ble_eq_true rfl, Nat.le_of_ble_eq_true rfl⟩ hX hW0 hS (fun v52 σ52 H locs hM52 hX hS => ?_) (fun E x H1 locs1 hM => by cases hM)
          obtain ⟨ev52, es52⟩ := x_inl hM52
          subst es52
          subst ev52
          refine lv_if_eq (tgt := 59) hx hb d_MO_seal_55 (by decide) (fun c55 => ?_) (fun c55 => ?_)
          · exact absurd c55 (thr_n2 (by decide))
          · subst hR
            refine W.widen (k := 0) (n := 0) (by decide) (by decide) ?_; exact xs_v hx hb hr hlocks hX hS d_MO_seal_58
    · rw [if_pos c12] at hR
      refine lv_iconst (v := 1) hx hb d_MO_seal_15 (by decide) ?_
      refine lv_goto (tgt := 20) hx hb d_MO_seal_16 (by decide) ?_
      refine lv_istore (lv' := [(4, .int (1 : Int32)), (0, .ref (xB s0 + XA 15 0)), (1, .int v), (2, .int cu), (3, .int wh)]) hx hb d_MO_seal_20 hl (by decide) rfl (fun ls hl => ?_)
      refine lv_aload_n hx hb d_MO_seal_22 rfl (lv_at hl 1 rfl) ?_
      refine lv_iload hx hb d_MO_seal_23 (lv_at hl 0 rfl) ?_
      refine lv_iload hx hb d_MO_seal_25 (lv_at hl 0 rfl) ?_
      refine lv_if_ne (tgt := 49) hx hb d_MO_seal_27 (by decide) (fun c27 => ?_) (fun c27 => ?_)
      · refine lv_iconst (v := 0) hx hb d_MO_seal_49 (by decide) ?_
        refine lv_iconst (v := 0) hx hb d_MO_seal_50 (by decide) ?_
        refine lv_iconst (v := 0) hx hb d_MO_seal_51 (by decide) ?_
        obtain ⟨cB52, hcB52, hoB52, hkB52⟩ := xw_recv (r := 15) (i := 0) hK hX (by decide) rfl rfl
        refine xc_s (rest := []) (x_invV (argsL := [.int (1 : Int32), .int (0 : Int32), .int (0 : Int32), .int (0 : Int32)]) hx hb hown (hts _ w_671) (hts _ w_673) (hts _ w_20) (x_code (hts _ w_674)) ⟨by decide, by decide⟩ hcB52 hoB52 hkB52 rfl rfl rfl d_MO_seal_52) (c_MO_throwing h0 σ (1 : Int32) (0 : Int32) (0 : Int32) (0 : Int32)) (xs_cw h0 hW0 m_674) (hts _ w_38) ⟨rfl, rfl, Nat.le_of_ble_eq_true rfl, Nat.le_of_ble_eq_true rfl⟩ (hl.1.trans hml.symm) (by rw [hb]; exact d_MO_seal_52) (Nat.le_of_ble_eq_true rfl) ⟨Nat.le_of_ble_eq_true rfl, Nat.le_of_ble_eq_true rfl⟩ hX hW0 hS (fun v52 σ52 H locs hM52 hX hS => ?_) (fun E x H1 locs1 hM => by cases hM)
        obtain ⟨ev52, es52⟩ := x_inl hM52
        subst es52
        subst ev52
        refine lv_if_eq (tgt := 59) hx hb d_MO_seal_55 (by decide) (fun c55 => ?_) (fun c55 => ?_)
        · exact absurd c55 (thr_n1 (by decide))
        · subst hR
          refine W.widen (k := 0) (n := 0) (by decide) (by decide) ?_; exact xs_v hx hb hr hlocks hX hS d_MO_seal_58
      · exact absurd c27 (by decide)

abbrev rm_MO_check : Room := { frames := 2, cells := 0, slots := 0, locals := 43 }
def S_MO_check (σ : XS) (v : Int32) : Unit × XS := (if (S_MO_isVehicle σ v) = 0 then ((), (S_MO_throwing σ (1 : Int32) (0 : Int32) (0 : Int32) (0 : Int32)).2) else ((), (xuI (S_MO_throwing σ (0 : Int32) (0 : Int32) (0 : Int32) (0 : Int32)).2 23 0 v.toNatClampNeg (((3 : Int32) * (((S_MO_throwing σ (0 : Int32) (0 : Int32) (0 : Int32) (0 : Int32)).2).1 15 0 1)) + (((S_MO_throwing σ (0 : Int32) (0 : Int32) (0 : Int32) (0 : Int32)).2).1 15 0 2)))))
set_option maxHeartbeats 4000000 in
set_option maxRecDepth 100000 in
theorem c_MO_check {l : Launch} {s0 : State} {A0 : Array Value} {D : va_G} {dA : Nat → ClassId} (h0 : XS0 l s0 A0 D dA) (σ : XS) (v : Int32) (hok : MOk σ) : XMet l y_MO_check [cw_MO_check] rm_MO_check (XP D dA s0 σ [.ref (xB s0 + XA 15 0), .int v]) (XQs D dA s0 xv_v (.inl (S_MO_check σ v))) 0 0 (xAm s0) := by
  refine XMet.ofW (cc := b_MO_check) (maxL := 2) (ret := none) (by decide) rfl ?_
  intro p e s m args below meth c s₁ Bd hml hvA
  obtain ⟨rfl, hX, hO⟩ := hvA
  have hx := Bd.exec
  have hb := Bd.bytes
  have hr := Bd.returns
  have hown : s.vm.findClass "LoadChecksModel" = some m.cls := findClass_of_methodNamed Bd.named
  have hlocks := Bd.notSynchronized
  have hnt : c.exceptionTable.isEmpty = true := Bd.noHandlers (atoms_spec (ws := [cw_MO_check]) Bd.pre _ List.mem_cons_self)
  have hW0 := hO.1
  have hts := xs_w (args := ([.ref (xB s0 + XA 15 0), .int v] : List Value).toArray) h0 hW0
  have hK := xs_K h0 hW0
  have hS := xo_S0 hO
  have hl := lv_entry ([.ref (xB s0 + XA 15 0), .int v]) (n := 2) (Nat.le_of_ble_eq_true rfl)
  rw [lg_entry_eq]
  generalize (lg_sl ([.ref (xB s0 + XA 15 0), .int v]) ++ List.replicate (2 - (lg_sl ([.ref (xB s0 + XA 15 0), .int v])).length) Slot.unset).toArray = ls at hl ⊢
  have hl : lv_has ls 2 [(0, .ref (xB s0 + XA 15 0)), (1, .int v)] := hl
  generalize hR : S_MO_check σ v = res
  unfold S_MO_check at hR
  refine lv_aload_n hx hb d_MO_check_0 rfl (lv_at hl 0 rfl) ?_
  refine lv_aload_n hx hb d_MO_check_1 rfl (lv_at hl 0 rfl) ?_
  refine lv_iload_n hx hb d_MO_check_2 rfl (lv_at hl 1 rfl) ?_
  obtain ⟨cB3, hcB3, hoB3, hkB3⟩ := xw_recv (r := 15) (i := 0) hK hX (by decide) rfl rfl
  refine xc_f (rest := [.ref (xB s0 + XA 15 0)]) (x_invV (argsL := [.int v]) hx hb hown (hts _ w_679) (hts _ w_681) (hts _ w_21) (x_code (hts _ w_682)) ⟨by decide, by decide⟩ hcB3 hoB3 hkB3 rfl rfl rfl d_MO_check_3) (c_MO_isVehicle h0 σ v) (xs_cw h0 hW0 m_682) (hts _ w_38) ⟨rfl, rfl, Nat.le_of_ble_eq_true rfl, Nat.le_of_ble_eq_true rfl⟩ (hl.1.trans hml.symm) (by rw [hb]; exact d_MO_check_3) (Nat.le_of_ble_eq_true rfl) ⟨Nat.le_of_ble_eq_true rfl, Nat.le_of_ble_eq_true rfl⟩ hX ⟨hW0, xo_S hS⟩ ?_
  refine lv_if_ne (tgt := 13) hx hb d_MO_check_6 (by decide) (fun c6 => ?_) (fun c6 => ?_)
  · rw [if_neg c6] at hR
    have hv := m_veh hok c6
    refine lv_iconst (v := 0) hx hb d_MO_check_13 (by decide) ?_
    refine lv_iconst (v := 0) hx hb d_MO_check_14 (by decide) ?_
    refine lv_iconst (v := 0) hx hb d_MO_check_15 (by decide) ?_
    refine lv_iconst (v := 0) hx hb d_MO_check_16 (by decide) ?_
    obtain ⟨cB17, hcB17, hoB17, hkB17⟩ := xw_recv (r := 15) (i := 0) hK hX (by decide) rfl rfl
    refine xc_s (rest := []) (x_invV (argsL := [.int (0 : Int32), .int (0 : Int32), .int (0 : Int32), .int (0 : Int32)]) hx hb hown (hts _ w_671) (hts _ w_673) (hts _ w_20) (x_code (hts _ w_674)) ⟨by decide, by decide⟩ hcB17 hoB17 hkB17 rfl rfl rfl d_MO_check_17) (c_MO_throwing h0 σ (0 : Int32) (0 : Int32) (0 : Int32) (0 : Int32)) (xs_cw h0 hW0 m_674) (hts _ w_38) ⟨rfl, rfl, Nat.le_of_ble_eq_true rfl, Nat.le_of_ble_eq_true rfl⟩ (hl.1.trans hml.symm) (by rw [hb]; exact d_MO_check_17) (Nat.le_of_ble_eq_true rfl) ⟨Nat.le_of_ble_eq_true rfl, Nat.le_of_ble_eq_true rfl⟩ hX hW0 hS (fun v17 σ17 H locs hM17 hX hS => ?_) (fun E x H1 locs1 hM => by cases hM)
    obtain ⟨ev17, es17⟩ := x_inl hM17
    subst es17
    subst ev17
    refine lv_if_eq (tgt := 24) hx hb d_MO_check_20 (by decide) (fun c20 => ?_) (fun c20 => ?_)
    · refine lv_aload_n hx hb d_MO_check_24 rfl (lv_at hl 0 rfl) ?_
      refine xw_get (C := R_MO) (T := F_MO) (N := 20) (r := 15) (i := 0) hx hb hts hi_MO hown hK hX (by decide) rfl rfl 11 (by decide) (hts _ w_606) rfl rfl d_MO_check_25 ?_
      refine lv_iload_n hx hb d_MO_check_28 rfl (lv_at hl 1 rfl) ?_
      refine lv_iconst (v := 3) hx hb d_MO_check_29 (by decide) ?_
      refine lv_aload_n hx hb d_MO_check_30 rfl (lv_at hl 0 rfl) ?_
      refine xw_get (C := R_MO) (T := F_MO) (N := 20) (r := 15) (i := 0) hx hb hts hi_MO hown hK hX (by decide) rfl rfl 1 (by decide) (hts _ w_596) rfl rfl d_MO_check_31 ?_
      refine lv_imul hx hb d_MO_check_34 ?_
      refine lv_aload_n hx hb d_MO_check_35 rfl (lv_at hl 0 rfl) ?_
      refine xw_get (C := R_MO) (T := F_MO) (N := 20) (r := 15) (i := 0) hx hb hts hi_MO hown hK hX (by decide) rfl rfl 2 (by decide) (hts _ w_597) rfl rfl d_MO_check_36 ?_
      refine lv_iadd hx hb d_MO_check_39 ?_
      refine xw_iast (r := 23) (i := 0) (ent' := XE dA (xB s0) (xuI (S_MO_throwing σ (0 : Int32) (0 : Int32) (0 : Int32) (0 : Int32)).2 23 0 v.toNatClampNeg (((3 : Int32) * (((S_MO_throwing σ (0 : Int32) (0 : Int32) (0 : Int32) (0 : Int32)).2).1 15 0 1)) + (((S_MO_throwing σ (0 : Int32) (0 : Int32) (0 : Int32) (0 : Int32)).2).1 15 0 2)))) hx hb hK xInj hX hS (xA_in _ _ _) (by decide) 0 rfl rfl (j := v) hv ((xe_uI dA (xB s0) ((S_MO_throwing σ (0 : Int32) (0 : Int32) (0 : Int32) (0 : Int32)).2) 23 0 v.toNatClampNeg (((3 : Int32) * (((S_MO_throwing σ (0 : Int32) (0 : Int32) (0 : Int32) (0 : Int32)).2).1 15 0 1)) + (((S_MO_throwing σ (0 : Int32) (0 : Int32) (0 : Int32) (0 : Int32)).2).1 15 0 2))).trans rfl) (xe_oI dA (xB s0) ((S_MO_throwing σ (0 : Int32) (0 : Int32) (0 : Int32) (0 : Int32)).2) 23 0 v.toNatClampNeg (((3 : Int32) * (((S_MO_throwing σ (0 : Int32) (0 : Int32) (0 : Int32) (0 : Int32)).2).1 15 0 1)) + (((S_MO_throwing σ (0 : Int32) (0 : Int32) (0 : Int32) (0 : Int32)).2).1 15 0 2))) d_MO_check_40 (fun H locs hX hS => ?_)
      subst hR
      refine W.widen (k := 0) (n := 0) (by decide) (by decide) ?_; exact xs_v hx hb hr hlocks hX hS d_MO_check_41
    · exact absurd thr_z c20
  · rw [if_pos c6] at hR
    refine lv_iconst (v := 1) hx hb d_MO_check_9 (by decide) ?_
    refine lv_goto (tgt := 14) hx hb d_MO_check_10 (by decide) ?_
    refine lv_iconst (v := 0) hx hb d_MO_check_14 (by decide) ?_
    refine lv_iconst (v := 0) hx hb d_MO_check_15 (by decide) ?_
    refine lv_iconst (v := 0) hx hb d_MO_check_16 (by decide) ?_
    obtain ⟨cB17, hcB17, hoB17, hkB17⟩ := xw_recv (r := 15) (i := 0) hK hX (by decide) rfl rfl
    refine xc_s (rest := []) (x_invV (argsL := [.int (1 : Int32), .int (0 : Int32), .int (0 : Int32), .int (0 : Int32)]) hx hb hown (hts _ w_671) (hts _ w_673) (hts _ w_20) (x_code (hts _ w_674)) ⟨by decide, by decide⟩ hcB17 hoB17 hkB17 rfl rfl rfl d_MO_check_17) (c_MO_throwing h0 σ (1 : Int32) (0 : Int32) (0 : Int32) (0 : Int32)) (xs_cw h0 hW0 m_674) (hts _ w_38) ⟨rfl, rfl, Nat.le_of_ble_eq_true rfl, Nat.le_of_ble_eq_true rfl⟩ (hl.1.trans hml.symm) (by rw [hb]; exact d_MO_check_17) (Nat.le_of_ble_eq_true rfl) ⟨Nat.le_of_ble_eq_true rfl, Nat.le_of_ble_eq_true rfl⟩ hX hW0 hS (fun v17 σ17 H locs hM17 hX hS => ?_) (fun E x H1 locs1 hM => by cases hM)
    obtain ⟨ev17, es17⟩ := x_inl hM17
    subst es17
    subst ev17
    refine lv_if_eq (tgt := 24) hx hb d_MO_check_20 (by decide) (fun c20 => ?_) (fun c20 => ?_)
    · exact absurd c20 (thr_n1 (by decide))
    · subst hR
      refine W.widen (k := 0) (n := 0) (by decide) (by decide) ?_; exact xs_v hx hb hr hlocks hX hS d_MO_check_23

abbrev rm_MO_now : Room := { frames := 1, cells := 0, slots := 0, locals := 24 }
def S_MO_now (σ : XS) (d : Int32) (sh : Int32) : Unit × XS := (if (S_MO_in σ d (0 : Int32) (9999 : Int32)) = 0 then ((), (S_MO_throwing σ (1 : Int32) (0 : Int32) (0 : Int32) (0 : Int32)).2) else (if (S_MO_in σ sh (0 : Int32) (2 : Int32)) = 0 then ((), (S_MO_throwing σ (1 : Int32) (0 : Int32) (0 : Int32) (0 : Int32)).2) else (if d < (σ.1 15 0 1) then ((), (S_MO_throwing σ (1 : Int32) (0 : Int32) (0 : Int32) (0 : Int32)).2) else (if d = (σ.1 15 0 1) then (if (σ.1 15 0 2) ≤ sh then ((), (xuI (xuI (S_MO_throwing σ (0 : Int32) (0 : Int32) (0 : Int32) (0 : Int32)).2 15 0 1 d) 15 0 2 sh)) else ((), (S_MO_throwing σ (1 : Int32) (0 : Int32) (0 : Int32) (0 : Int32)).2)) else ((), (xuI (xuI (S_MO_throwing σ (0 : Int32) (0 : Int32) (0 : Int32) (0 : Int32)).2 15 0 1 d) 15 0 2 sh))))))
set_option maxHeartbeats 4000000 in
set_option maxRecDepth 100000 in
theorem c_MO_now {l : Launch} {s0 : State} {A0 : Array Value} {D : va_G} {dA : Nat → ClassId} (h0 : XS0 l s0 A0 D dA) (σ : XS) (d : Int32) (sh : Int32)  : XMet l y_MO_now [cw_MO_now] rm_MO_now (XP D dA s0 σ [.ref (xB s0 + XA 15 0), .int d, .int sh]) (XQs D dA s0 xv_v (.inl (S_MO_now σ d sh))) 0 0 (xAm s0) := by
  refine XMet.ofW (cc := b_MO_now) (maxL := 4) (ret := none) (by decide) rfl ?_
  intro p e s m args below meth c s₁ Bd hml hvA
  obtain ⟨rfl, hX, hO⟩ := hvA
  have hx := Bd.exec
  have hb := Bd.bytes
  have hr := Bd.returns
  have hown : s.vm.findClass "LoadChecksModel" = some m.cls := findClass_of_methodNamed Bd.named
  have hlocks := Bd.notSynchronized
  have hnt : c.exceptionTable.isEmpty = true := Bd.noHandlers (atoms_spec (ws := [cw_MO_now]) Bd.pre _ List.mem_cons_self)
  have hW0 := hO.1
  have hts := xs_w (args := ([.ref (xB s0 + XA 15 0), .int d, .int sh] : List Value).toArray) h0 hW0
  have hK := xs_K h0 hW0
  have hS := xo_S0 hO
  have hl := lv_entry ([.ref (xB s0 + XA 15 0), .int d, .int sh]) (n := 4) (Nat.le_of_ble_eq_true rfl)
  rw [lg_entry_eq]
  generalize (lg_sl ([.ref (xB s0 + XA 15 0), .int d, .int sh]) ++ List.replicate (4 - (lg_sl ([.ref (xB s0 + XA 15 0), .int d, .int sh])).length) Slot.unset).toArray = ls at hl ⊢
  have hl : lv_has ls 4 [(0, .ref (xB s0 + XA 15 0)), (1, .int d), (2, .int sh)] := hl
  generalize hR : S_MO_now σ d sh = res
  unfold S_MO_now at hR
  refine lv_iload_n hx hb d_MO_now_0 rfl (lv_at hl 1 rfl) ?_
  refine lv_iconst (v := 0) hx hb d_MO_now_1 (by decide) ?_
  refine lv_sipush (v := 9999) hx hb d_MO_now_2 (by decide) ?_
  refine xc_f (rest := []) (x_invS (argsL := [.int d, .int (0 : Int32), .int (9999 : Int32)]) hx hb hown (hts _ w_664) (hts _ w_665) (hts _ w_38) (x_code (hts _ w_666)) ⟨by decide, by decide⟩ rfl rfl rfl d_MO_now_5) (c_MO_in h0 σ d (0 : Int32) (9999 : Int32)) (xs_cw h0 hW0 m_666) (hts _ w_38) ⟨rfl, rfl, Nat.le_of_ble_eq_true rfl, Nat.le_of_ble_eq_true rfl⟩ (hl.1.trans hml.symm) (by rw [hb]; exact d_MO_now_5) (Nat.le_of_ble_eq_true rfl) ⟨Nat.le_of_ble_eq_true rfl, Nat.le_of_ble_eq_true rfl⟩ hX ⟨hW0, xo_S hS⟩ ?_
  refine lv_if_eq (tgt := 44) hx hb d_MO_now_8 (by decide) (fun c8 => ?_) (fun c8 => ?_)
  · rw [if_pos c8] at hR
    refine lv_iconst (v := 1) hx hb d_MO_now_44 (by decide) ?_
    refine lv_goto (tgt := 49) hx hb d_MO_now_45 (by decide) ?_
    refine lv_istore_n (lv' := [(3, .int (1 : Int32)), (0, .ref (xB s0 + XA 15 0)), (1, .int d), (2, .int sh)]) hx hb d_MO_now_49 rfl hl (by decide) rfl (fun ls hl => ?_)
    refine lv_aload_n hx hb d_MO_now_50 rfl (lv_at hl 1 rfl) ?_
    refine lv_iload_n hx hb d_MO_now_51 rfl (lv_at hl 0 rfl) ?_
    refine lv_iconst (v := 0) hx hb d_MO_now_52 (by decide) ?_
    refine lv_iconst (v := 0) hx hb d_MO_now_53 (by decide) ?_
    refine lv_iconst (v := 0) hx hb d_MO_now_54 (by decide) ?_
    obtain ⟨cB55, hcB55, hoB55, hkB55⟩ := xw_recv (r := 15) (i := 0) hK hX (by decide) rfl rfl
    refine xc_s (rest := []) (x_invV (argsL := [.int (1 : Int32), .int (0 : Int32), .int (0 : Int32), .int (0 : Int32)]) hx hb hown (hts _ w_671) (hts _ w_673) (hts _ w_20) (x_code (hts _ w_674)) ⟨by decide, by decide⟩ hcB55 hoB55 hkB55 rfl rfl rfl d_MO_now_55) (c_MO_throwing h0 σ (1 : Int32) (0 : Int32) (0 : Int32) (0 : Int32)) (xs_cw h0 hW0 m_674) (hts _ w_38) ⟨rfl, rfl, Nat.le_of_ble_eq_true rfl, Nat.le_of_ble_eq_true rfl⟩ (hl.1.trans hml.symm) (by rw [hb]; exact d_MO_now_55) (Nat.le_of_ble_eq_true rfl) ⟨Nat.le_of_ble_eq_true rfl, Nat.le_of_ble_eq_true rfl⟩ hX hW0 hS (fun v55 σ55 H locs hM55 hX hS => ?_) (fun E x H1 locs1 hM => by cases hM)
    obtain ⟨ev55, es55⟩ := x_inl hM55
    subst es55
    subst ev55
    refine lv_if_eq (tgt := 62) hx hb d_MO_now_58 (by decide) (fun c58 => ?_) (fun c58 => ?_)
    · exact absurd c58 (thr_n1 (by decide))
    · subst hR
      refine W.widen (k := 0) (n := 0) (by decide) (by decide) ?_; exact xs_v hx hb hr hlocks hX hS d_MO_now_61
  · rw [if_neg c8] at hR
    refine lv_iload_n hx hb d_MO_now_11 rfl (lv_at hl 2 rfl) ?_
    refine lv_iconst (v := 0) hx hb d_MO_now_12 (by decide) ?_
    refine lv_iconst (v := 2) hx hb d_MO_now_13 (by decide) ?_
    refine xc_f (rest := []) (x_invS (argsL := [.int sh, .int (0 : Int32), .int (2 : Int32)]) hx hb hown (hts _ w_664) (hts _ w_665) (hts _ w_38) (x_code (hts _ w_666)) ⟨by decide, by decide⟩ rfl rfl rfl d_MO_now_14) (c_MO_in h0 σ sh (0 : Int32) (2 : Int32)) (xs_cw h0 hW0 m_666) (hts _ w_38) ⟨rfl, rfl, Nat.le_of_ble_eq_true rfl, Nat.le_of_ble_eq_true rfl⟩ (hl.1.trans hml.symm) (by rw [hb]; exact d_MO_now_14) (Nat.le_of_ble_eq_true rfl) ⟨Nat.le_of_ble_eq_true rfl, Nat.le_of_ble_eq_true rfl⟩ hX ⟨hW0, xo_S hS⟩ ?_
    refine lv_if_eq (tgt := 44) hx hb d_MO_now_17 (by decide) (fun c17 => ?_) (fun c17 => ?_)
    · rw [if_pos c17] at hR
      refine lv_iconst (v := 1) hx hb d_MO_now_44 (by decide) ?_
      refine lv_goto (tgt := 49) hx hb d_MO_now_45 (by decide) ?_
      refine lv_istore_n (lv' := [(3, .int (1 : Int32)), (0, .ref (xB s0 + XA 15 0)), (1, .int d), (2, .int sh)]) hx hb d_MO_now_49 rfl hl (by decide) rfl (fun ls hl => ?_)
      refine lv_aload_n hx hb d_MO_now_50 rfl (lv_at hl 1 rfl) ?_
      refine lv_iload_n hx hb d_MO_now_51 rfl (lv_at hl 0 rfl) ?_
      refine lv_iconst (v := 0) hx hb d_MO_now_52 (by decide) ?_
      refine lv_iconst (v := 0) hx hb d_MO_now_53 (by decide) ?_
      refine lv_iconst (v := 0) hx hb d_MO_now_54 (by decide) ?_
      obtain ⟨cB55, hcB55, hoB55, hkB55⟩ := xw_recv (r := 15) (i := 0) hK hX (by decide) rfl rfl
      refine xc_s (rest := []) (x_invV (argsL := [.int (1 : Int32), .int (0 : Int32), .int (0 : Int32), .int (0 : Int32)]) hx hb hown (hts _ w_671) (hts _ w_673) (hts _ w_20) (x_code (hts _ w_674)) ⟨by decide, by decide⟩ hcB55 hoB55 hkB55 rfl rfl rfl d_MO_now_55) (c_MO_throwing h0 σ (1 : Int32) (0 : Int32) (0 : Int32) (0 : Int32)) (xs_cw h0 hW0 m_674) (hts _ w_38) ⟨rfl, rfl, Nat.le_of_ble_eq_true rfl, Nat.le_of_ble_eq_true rfl⟩ (hl.1.trans hml.symm) (by rw [hb]; exact d_MO_now_55) (Nat.le_of_ble_eq_true rfl) ⟨Nat.le_of_ble_eq_true rfl, Nat.le_of_ble_eq_true rfl⟩ hX hW0 hS (fun v55 σ55 H locs hM55 hX hS => ?_) (fun E x H1 locs1 hM => by cases hM)
      obtain ⟨ev55, es55⟩ := x_inl hM55
      subst es55
      subst ev55
      refine lv_if_eq (tgt := 62) hx hb d_MO_now_58 (by decide) (fun c58 => ?_) (fun c58 => ?_)
      · exact absurd c58 (thr_n1 (by decide))
      · subst hR
        refine W.widen (k := 0) (n := 0) (by decide) (by decide) ?_; exact xs_v hx hb hr hlocks hX hS d_MO_now_61
    · rw [if_neg c17] at hR
      refine lv_iload_n hx hb d_MO_now_20 rfl (lv_at hl 1 rfl) ?_
      refine lv_aload_n hx hb d_MO_now_21 rfl (lv_at hl 0 rfl) ?_
      refine xw_get (C := R_MO) (T := F_MO) (N := 20) (r := 15) (i := 0) hx hb hts hi_MO hown hK hX (by decide) rfl rfl 1 (by decide) (hts _ w_596) rfl rfl d_MO_now_22 ?_
      refine lv_icmp_lt (tgt := 44) hx hb d_MO_now_25 (by decide) (fun c25 => ?_) (fun c25 => ?_)
      · rw [if_pos c25] at hR
        refine lv_iconst (v := 1) hx hb d_MO_now_44 (by decide) ?_
        refine lv_goto (tgt := 49) hx hb d_MO_now_45 (by decide) ?_
        refine lv_istore_n (lv' := [(3, .int (1 : Int32)), (0, .ref (xB s0 + XA 15 0)), (1, .int d), (2, .int sh)]) hx hb d_MO_now_49 rfl hl (by decide) rfl (fun ls hl => ?_)
        refine lv_aload_n hx hb d_MO_now_50 rfl (lv_at hl 1 rfl) ?_
        refine lv_iload_n hx hb d_MO_now_51 rfl (lv_at hl 0 rfl) ?_
        refine lv_iconst (v := 0) hx hb d_MO_now_52 (by decide) ?_
        refine lv_iconst (v := 0) hx hb d_MO_now_53 (by decide) ?_
        refine lv_iconst (v := 0) hx hb d_MO_now_54 (by decide) ?_
        obtain ⟨cB55, hcB55, hoB55, hkB55⟩ := xw_recv (r := 15) (i := 0) hK hX (by decide) rfl rfl
        refine xc_s (rest := []) (x_invV (argsL := [.int (1 : Int32), .int (0 : Int32), .int (0 : Int32), .int (0 : Int32)]) hx hb hown (hts _ w_671) (hts _ w_673) (hts _ w_20) (x_code (hts _ w_674)) ⟨by decide, by decide⟩ hcB55 hoB55 hkB55 rfl rfl rfl d_MO_now_55) (c_MO_throwing h0 σ (1 : Int32) (0 : Int32) (0 : Int32) (0 : Int32)) (xs_cw h0 hW0 m_674) (hts _ w_38) ⟨rfl, rfl, Nat.le_of_ble_eq_true rfl, Nat.le_of_ble_eq_true rfl⟩ (hl.1.trans hml.symm) (by rw [hb]; exact d_MO_now_55) (Nat.le_of_ble_eq_true rfl) ⟨Nat.le_of_ble_eq_true rfl, Nat.le_of_ble_eq_true rfl⟩ hX hW0 hS (fun v55 σ55 H locs hM55 hX hS => ?_) (fun E x H1 locs1 hM => by cases hM)
        obtain ⟨ev55, es55⟩ := x_inl hM55
        subst es55
        subst ev55
        refine lv_if_eq (tgt := 62) hx hb d_MO_now_58 (by decide) (fun c58 => ?_) (fun c58 => ?_)
        · exact absurd c58 (thr_n1 (by decide))
        · subst hR
          refine W.widen (k := 0) (n := 0) (by decide) (by decide) ?_; exact xs_v hx hb hr hlocks hX hS d_MO_now_61
      · rw [if_neg c25] at hR
        refine lv_iload_n hx hb d_MO_now_28 rfl (lv_at hl 1 rfl) ?_
        refine lv_aload_n hx hb d_MO_now_29 rfl (lv_at hl 0 rfl) ?_
        refine xw_get (C := R_MO) (T := F_MO) (N := 20) (r := 15) (i := 0) hx hb hts hi_MO hown hK hX (by decide) rfl rfl 1 (by decide) (hts _ w_596) rfl rfl d_MO_now_30 ?_
        refine lv_icmp_ne (tgt := 48) hx hb d_MO_now_33 (by decide) (fun c33 => ?_) (fun c33 => ?_)
        · rw [if_neg c33] at hR
          refine lv_iconst (v := 0) hx hb d_MO_now_48 (by decide) ?_
          refine lv_istore_n (lv' := [(3, .int (0 : Int32)), (0, .ref (xB s0 + XA 15 0)), (1, .int d), (2, .int sh)]) hx hb d_MO_now_49 rfl hl (by decide) rfl (fun ls hl => ?_)
          refine lv_aload_n hx hb d_MO_now_50 rfl (lv_at hl 1 rfl) ?_
          refine lv_iload_n hx hb d_MO_now_51 rfl (lv_at hl 0 rfl) ?_
          refine lv_iconst (v := 0) hx hb d_MO_now_52 (by decide) ?_
          refine lv_iconst (v := 0) hx hb d_MO_now_53 (by decide) ?_
          refine lv_iconst (v := 0) hx hb d_MO_now_54 (by decide) ?_
          obtain ⟨cB55, hcB55, hoB55, hkB55⟩ := xw_recv (r := 15) (i := 0) hK hX (by decide) rfl rfl
          refine xc_s (rest := []) (x_invV (argsL := [.int (0 : Int32), .int (0 : Int32), .int (0 : Int32), .int (0 : Int32)]) hx hb hown (hts _ w_671) (hts _ w_673) (hts _ w_20) (x_code (hts _ w_674)) ⟨by decide, by decide⟩ hcB55 hoB55 hkB55 rfl rfl rfl d_MO_now_55) (c_MO_throwing h0 σ (0 : Int32) (0 : Int32) (0 : Int32) (0 : Int32)) (xs_cw h0 hW0 m_674) (hts _ w_38) ⟨rfl, rfl, Nat.le_of_ble_eq_true rfl, Nat.le_of_ble_eq_true rfl⟩ (hl.1.trans hml.symm) (by rw [hb]; exact d_MO_now_55) (Nat.le_of_ble_eq_true rfl) ⟨Nat.le_of_ble_eq_true rfl, Nat.le_of_ble_eq_true rfl⟩ hX hW0 hS (fun v55 σ55 H locs hM55 hX hS => ?_) (fun E x H1 locs1 hM => by cases hM)
          obtain ⟨ev55, es55⟩ := x_inl hM55
          subst es55
          subst ev55
          refine lv_if_eq (tgt := 62) hx hb d_MO_now_58 (by decide) (fun c58 => ?_) (fun c58 => ?_)
          · refine lv_aload_n hx hb d_MO_now_62 rfl (lv_at hl 1 rfl) ?_
            refine lv_iload_n hx hb d_MO_now_63 rfl (lv_at hl 2 rfl) ?_
            refine xw_put (C := R_MO) (T := F_MO) (N := 20) (r := 15) (i := 0) (ent' := XE dA (xB s0) (xuI (S_MO_throwing σ (0 : Int32) (0 : Int32) (0 : Int32) (0 : Int32)).2 15 0 1 d)) hx hb hts hi_MO t_MO t_MO_ok n_MO hown hK xInj hX hS (xA_in _ _ _) (by decide) rfl rfl 1 (by decide) (hts _ w_596) rfl rfl rfl rfl (Nat.le_of_ble_eq_true rfl) ((xe_uI dA (xB s0) ((S_MO_throwing σ (0 : Int32) (0 : Int32) (0 : Int32) (0 : Int32)).2) 15 0 1 d).trans rfl) (xe_oI dA (xB s0) ((S_MO_throwing σ (0 : Int32) (0 : Int32) (0 : Int32) (0 : Int32)).2) 15 0 1 d) d_MO_now_64 (fun H locs hX hS => ?_)
            refine lv_aload_n hx hb d_MO_now_67 rfl (lv_at hl 1 rfl) ?_
            refine lv_iload_n hx hb d_MO_now_68 rfl (lv_at hl 3 rfl) ?_
            refine xw_put (C := R_MO) (T := F_MO) (N := 20) (r := 15) (i := 0) (ent' := XE dA (xB s0) (xuI (xuI (S_MO_throwing σ (0 : Int32) (0 : Int32) (0 : Int32) (0 : Int32)).2 15 0 1 d) 15 0 2 sh)) hx hb hts hi_MO t_MO t_MO_ok n_MO hown hK xInj hX hS (xA_in _ _ _) (by decide) rfl rfl 2 (by decide) (hts _ w_597) rfl rfl rfl rfl (Nat.le_of_ble_eq_true rfl) ((xe_uI dA (xB s0) (xuI (S_MO_throwing σ (0 : Int32) (0 : Int32) (0 : Int32) (0 : Int32)).2 15 0 1 d) 15 0 2 sh).trans rfl) (xe_oI dA (xB s0) (xuI (S_MO_throwing σ (0 : Int32) (0 : Int32) (0 : Int32) (0 : Int32)).2 15 0 1 d) 15 0 2 sh) d_MO_now_69 (fun H locs hX hS => ?_)
            subst hR
            refine W.widen (k := 0) (n := 0) (by decide) (by decide) ?_; exact xs_v hx hb hr hlocks hX hS d_MO_now_72
          · exact absurd thr_z c58
        · rw [if_pos c33] at hR
          refine lv_iload_n hx hb d_MO_now_36 rfl (lv_at hl 2 rfl) ?_
          refine lv_aload_n hx hb d_MO_now_37 rfl (lv_at hl 0 rfl) ?_
          refine xw_get (C := R_MO) (T := F_MO) (N := 20) (r := 15) (i := 0) hx hb hts hi_MO hown hK hX (by decide) rfl rfl 2 (by decide) (hts _ w_597) rfl rfl d_MO_now_38 ?_
          refine lv_icmp_ge (tgt := 48) hx hb d_MO_now_41 (by decide) (fun c41 => ?_) (fun c41 => ?_)
          · rw [if_pos c41] at hR
            refine lv_iconst (v := 0) hx hb d_MO_now_48 (by decide) ?_
            refine lv_istore_n (lv' := [(3, .int (0 : Int32)), (0, .ref (xB s0 + XA 15 0)), (1, .int d), (2, .int sh)]) hx hb d_MO_now_49 rfl hl (by decide) rfl (fun ls hl => ?_)
            refine lv_aload_n hx hb d_MO_now_50 rfl (lv_at hl 1 rfl) ?_
            refine lv_iload_n hx hb d_MO_now_51 rfl (lv_at hl 0 rfl) ?_
            refine lv_iconst (v := 0) hx hb d_MO_now_52 (by decide) ?_
            refine lv_iconst (v := 0) hx hb d_MO_now_53 (by decide) ?_
            refine lv_iconst (v := 0) hx hb d_MO_now_54 (by decide) ?_
            obtain ⟨cB55, hcB55, hoB55, hkB55⟩ := xw_recv (r := 15) (i := 0) hK hX (by decide) rfl rfl
            refine xc_s (rest := []) (x_invV (argsL := [.int (0 : Int32), .int (0 : Int32), .int (0 : Int32), .int (0 : Int32)]) hx hb hown (hts _ w_671) (hts _ w_673) (hts _ w_20) (x_code (hts _ w_674)) ⟨by decide, by decide⟩ hcB55 hoB55 hkB55 rfl rfl rfl d_MO_now_55) (c_MO_throwing h0 σ (0 : Int32) (0 : Int32) (0 : Int32) (0 : Int32)) (xs_cw h0 hW0 m_674) (hts _ w_38) ⟨rfl, rfl, Nat.le_of_ble_eq_true rfl, Nat.le_of_ble_eq_true rfl⟩ (hl.1.trans hml.symm) (by rw [hb]; exact d_MO_now_55) (Nat.le_of_ble_eq_true rfl) ⟨Nat.le_of_ble_eq_true rfl, Nat.le_of_ble_eq_true rfl⟩ hX hW0 hS (fun v55 σ55 H locs hM55 hX hS => ?_) (fun E x H1 locs1 hM => by cases hM)
            obtain ⟨ev55, es55⟩ := x_inl hM55
            subst es55
            subst ev55
            refine lv_if_eq (tgt := 62) hx hb d_MO_now_58 (by decide) (fun c58 => ?_) (fun c58 => ?_)
            · refine lv_aload_n hx hb d_MO_now_62 rfl (lv_at hl 1 rfl) ?_
              refine lv_iload_n hx hb d_MO_now_63 rfl (lv_at hl 2 rfl) ?_
              refine xw_put (C := R_MO) (T := F_MO) (N := 20) (r := 15) (i := 0) (ent' := XE dA (xB s0) (xuI (S_MO_throwing σ (0 : Int32) (0 : Int32) (0 : Int32) (0 : Int32)).2 15 0 1 d)) hx hb hts hi_MO t_MO t_MO_ok n_MO hown hK xInj hX hS (xA_in _ _ _) (by decide) rfl rfl 1 (by decide) (hts _ w_596) rfl rfl rfl rfl (Nat.le_of_ble_eq_true rfl) ((xe_uI dA (xB s0) ((S_MO_throwing σ (0 : Int32) (0 : Int32) (0 : Int32) (0 : Int32)).2) 15 0 1 d).trans rfl) (xe_oI dA (xB s0) ((S_MO_throwing σ (0 : Int32) (0 : Int32) (0 : Int32) (0 : Int32)).2) 15 0 1 d) d_MO_now_64 (fun H locs hX hS => ?_)
              refine lv_aload_n hx hb d_MO_now_67 rfl (lv_at hl 1 rfl) ?_
              refine lv_iload_n hx hb d_MO_now_68 rfl (lv_at hl 3 rfl) ?_
              refine xw_put (C := R_MO) (T := F_MO) (N := 20) (r := 15) (i := 0) (ent' := XE dA (xB s0) (xuI (xuI (S_MO_throwing σ (0 : Int32) (0 : Int32) (0 : Int32) (0 : Int32)).2 15 0 1 d) 15 0 2 sh)) hx hb hts hi_MO t_MO t_MO_ok n_MO hown hK xInj hX hS (xA_in _ _ _) (by decide) rfl rfl 2 (by decide) (hts _ w_597) rfl rfl rfl rfl (Nat.le_of_ble_eq_true rfl) ((xe_uI dA (xB s0) (xuI (S_MO_throwing σ (0 : Int32) (0 : Int32) (0 : Int32) (0 : Int32)).2 15 0 1 d) 15 0 2 sh).trans rfl) (xe_oI dA (xB s0) (xuI (S_MO_throwing σ (0 : Int32) (0 : Int32) (0 : Int32) (0 : Int32)).2 15 0 1 d) 15 0 2 sh) d_MO_now_69 (fun H locs hX hS => ?_)
              subst hR
              refine W.widen (k := 0) (n := 0) (by decide) (by decide) ?_; exact xs_v hx hb hr hlocks hX hS d_MO_now_72
            · exact absurd thr_z c58
          · rw [if_neg c41] at hR
            refine lv_iconst (v := 1) hx hb d_MO_now_44 (by decide) ?_
            refine lv_goto (tgt := 49) hx hb d_MO_now_45 (by decide) ?_
            refine lv_istore_n (lv' := [(3, .int (1 : Int32)), (0, .ref (xB s0 + XA 15 0)), (1, .int d), (2, .int sh)]) hx hb d_MO_now_49 rfl hl (by decide) rfl (fun ls hl => ?_)
            refine lv_aload_n hx hb d_MO_now_50 rfl (lv_at hl 1 rfl) ?_
            refine lv_iload_n hx hb d_MO_now_51 rfl (lv_at hl 0 rfl) ?_
            refine lv_iconst (v := 0) hx hb d_MO_now_52 (by decide) ?_
            refine lv_iconst (v := 0) hx hb d_MO_now_53 (by decide) ?_
            refine lv_iconst (v := 0) hx hb d_MO_now_54 (by decide) ?_
            obtain ⟨cB55, hcB55, hoB55, hkB55⟩ := xw_recv (r := 15) (i := 0) hK hX (by decide) rfl rfl
            refine xc_s (rest := []) (x_invV (argsL := [.int (1 : Int32), .int (0 : Int32), .int (0 : Int32), .int (0 : Int32)]) hx hb hown (hts _ w_671) (hts _ w_673) (hts _ w_20) (x_code (hts _ w_674)) ⟨by decide, by decide⟩ hcB55 hoB55 hkB55 rfl rfl rfl d_MO_now_55) (c_MO_throwing h0 σ (1 : Int32) (0 : Int32) (0 : Int32) (0 : Int32)) (xs_cw h0 hW0 m_674) (hts _ w_38) ⟨rfl, rfl, Nat.le_of_ble_eq_true rfl, Nat.le_of_ble_eq_true rfl⟩ (hl.1.trans hml.symm) (by rw [hb]; exact d_MO_now_55) (Nat.le_of_ble_eq_true rfl) ⟨Nat.le_of_ble_eq_true rfl, Nat.le_of_ble_eq_true rfl⟩ hX hW0 hS (fun v55 σ55 H locs hM55 hX hS => ?_) (fun E x H1 locs1 hM => by cases hM)
            obtain ⟨ev55, es55⟩ := x_inl hM55
            subst es55
            subst ev55
            refine lv_if_eq (tgt := 62) hx hb d_MO_now_58 (by decide) (fun c58 => ?_) (fun c58 => ?_)
            · exact absurd c58 (thr_n1 (by decide))
            · subst hR
              refine W.widen (k := 0) (n := 0) (by decide) (by decide) ?_; exact xs_v hx hb hr hlocks hX hS d_MO_now_61

abbrev rm_MO_ready : Room := { frames := 3, cells := 0, slots := 0, locals := 68 }
def L_MO_ready_162 : Nat → XS → Int32 → Int32 → Int32 × XS
  | 0, _, _, _ => default
  | n + 1, σ, v, x2 => (if (30 : Int32) ≤ x2 then (if (S_MO_isBeyond σ v (0 : Int32)) = 0 then (if (S_MO_isBeyond σ v (1 : Int32)) = 0 then ((0 : Int32), σ) else ((6 : Int32), σ)) else ((6 : Int32), σ)) else (if (S_MO_isNeeded σ v x2) = 0 then (L_MO_ready_162 n σ v (x2 + 1)) else (if (σ.1 17 0 x2.toNatClampNeg) ≤ (σ.1 27 0 (((30 : Int32) * v) + x2).toNatClampNeg) then (L_MO_ready_162 n σ v (x2 + 1)) else ((5 : Int32), σ))))
def L_MO_ready_105 : Nat → XS → Int32 → Int32 → Int32 × XS
  | 0, _, _, _ => default
  | n + 1, σ, v, x2 => (if (30 : Int32) ≤ x2 then (L_MO_ready_162 31 σ v (0 : Int32)) else (if (S_MO_isNeeded σ v x2) = 0 then (L_MO_ready_105 n σ v (x2 + 1)) else (if (σ.1 26 0 (((30 : Int32) * v) + x2).toNatClampNeg) < 0 then (L_MO_ready_105 n σ v (x2 + 1)) else (if (σ.1 15 0 1) < (σ.1 26 0 (((30 : Int32) * v) + x2).toNatClampNeg) then (L_MO_ready_105 n σ v (x2 + 1)) else ((4 : Int32), σ)))))
def L_MO_ready_75 : Nat → XS → Int32 → Int32 → Int32 × XS
  | 0, _, _, _ => default
  | n + 1, σ, v, x2 => (if (8 : Int32) ≤ x2 then (L_MO_ready_105 31 σ v (0 : Int32)) else (if (σ.1 25 0 (((8 : Int32) * v) + x2).toNatClampNeg) = 0 then (L_MO_ready_75 n σ v (x2 + 1)) else ((3 : Int32), σ)))
def L_MO_ready_49 : Nat → XS → Int32 → Int32 → Int32 × XS
  | 0, _, _, _ => default
  | n + 1, σ, v, x2 => (if (240 : Int32) ≤ x2 then (L_MO_ready_75 9 σ v (0 : Int32)) else (if (S_MO_missingOf σ v x2) ≤ 0 then (L_MO_ready_49 n σ v (x2 + 1)) else ((2 : Int32), σ)))
def S_MO_ready (σ : XS) (v : Int32) : Int32 × XS := (if (S_MO_isVehicle σ v) = 0 then ((0 : Int32), (S_MO_throwing σ (1 : Int32) (0 : Int32) (0 : Int32) (0 : Int32)).2) else (if (((S_MO_throwing σ (0 : Int32) (0 : Int32) (0 : Int32) (0 : Int32)).2).1 23 0 v.toNatClampNeg) = (((3 : Int32) * (((S_MO_throwing σ (0 : Int32) (0 : Int32) (0 : Int32) (0 : Int32)).2).1 15 0 1)) + (((S_MO_throwing σ (0 : Int32) (0 : Int32) (0 : Int32) (0 : Int32)).2).1 15 0 2)) then (L_MO_ready_49 241 ((S_MO_throwing σ (0 : Int32) (0 : Int32) (0 : Int32) (0 : Int32)).2) v (0 : Int32)) else ((1 : Int32), (S_MO_throwing σ (0 : Int32) (0 : Int32) (0 : Int32) (0 : Int32)).2)))
set_option maxHeartbeats 4000000 in
set_option maxRecDepth 100000 in
theorem l_MO_ready_162 {l : Launch} {s0 : State} {A0 : Array Value} {D : va_G} {dA : Nat → ClassId} (h0 : XS0 l s0 A0 D dA) {p : Program} {e : Env} {s : State} {m : MethodId} {args : Array Value} {below : List Frame} {meth : Method} {c : Code} (hx : p.tables.exec = Jvm.exec) (hb : c.code = b_MO_ready) (hr : meth.sig.returnType = (some .int)) (hml : c.maxLocals = 3) (hown : s.vm.findClass "LoadChecksModel" = some m.cls) (hlocks : meth.locks = false) (hnt : c.exceptionTable.isEmpty = true) (hO : XO s0 s s.heap) :
    ∀ (n : Nat) (σ : XS) (v : Int32) (x2 : Int32) (k : Nat), x2 = nI k → k + n = 31 → k < 31 → MOk σ → vp_in v 16 → ∀ {H : Heap} {locs : List Loc}, XWs D dA s0 σ H → va_S (xAm s0) s0.heap H locs → ∀ (ls : Array Slot), lv_has ls 3 [(0, .ref (xB s0 + XA 15 0)), (1, .int v), (2, .int x2)] → ∀ res, L_MO_ready_162 n σ v x2 = res →
    W p l e rm_MO_ready s m args below meth c H locs 0 0 (XMQ below (XQs D dA s0 xv_i (.inl res)) args s 0 0 (xAm s0)) (F0 m 162 ls []) := by
  have hW0 := hO.1
  have hts := xs_w (args := args) h0 hW0
  have hK := xs_K h0 hW0
  intro n
  induction n with
  | zero =>
    intro σ v x2 k e1 h2 h3
    exact absurd h2 (by omega)
  | succ n ih =>
    intro σ v x2 k e_x2 hkn hkF hok hv H locs hX hS ls hl res hR
    rw [L_MO_ready_162] at hR
    refine lv_iload_n hx hb d_MO_ready_162 rfl (lv_at hl 2 rfl) ?_
    refine lv_bipush (v := 30) hx hb d_MO_ready_163 (by decide) ?_
    refine lv_icmp_ge (tgt := 205) hx hb d_MO_ready_165 (by decide) (fun c165 => ?_) (fun c165 => ?_)
    · rw [if_pos c165] at hR
      refine lv_aload_n hx hb d_MO_ready_205 rfl (lv_at hl 0 rfl) ?_
      refine lv_iload_n hx hb d_MO_ready_206 rfl (lv_at hl 1 rfl) ?_
      refine lv_iconst (v := 0) hx hb d_MO_ready_207 (by decide) ?_
      obtain ⟨cB208, hcB208, hoB208, hkB208⟩ := xw_recv (r := 15) (i := 0) hK hX (by decide) rfl rfl
      refine xc_f (rest := []) (x_invV (argsL := [.int v, .int (0 : Int32)]) hx hb hown (hts _ w_738) (hts _ w_740) (hts _ w_29) (x_code (hts _ w_741)) ⟨by decide, by decide⟩ hcB208 hoB208 hkB208 rfl rfl rfl d_MO_ready_208) (c_MO_isBeyond h0 σ v (0 : Int32) hv) (xs_cw h0 hW0 m_741) (hts _ w_38) ⟨rfl, rfl, Nat.le_of_ble_eq_true rfl, Nat.le_of_ble_eq_true rfl⟩ (hl.1.trans hml.symm) (by rw [hb]; exact d_MO_ready_208) (Nat.le_of_ble_eq_true rfl) ⟨Nat.le_of_ble_eq_true rfl, Nat.le_of_ble_eq_true rfl⟩ hX ⟨hW0, xo_S hS⟩ ?_
      refine lv_if_ne (tgt := 223) hx hb d_MO_ready_211 (by decide) (fun c211 => ?_) (fun c211 => ?_)
      · rw [if_neg c211] at hR
        refine lv_bipush (v := 6) hx hb d_MO_ready_223 (by decide) ?_
        refine lv_goto (tgt := 229) hx hb d_MO_ready_225 (by decide) ?_
        subst hR
        refine W.widen (k := 0) (n := 0) (by decide) (by decide) ?_; exact xs_i hx hb hr hlocks hX hS d_MO_ready_229
      · rw [if_pos c211] at hR
        refine lv_aload_n hx hb d_MO_ready_214 rfl (lv_at hl 0 rfl) ?_
        refine lv_iload_n hx hb d_MO_ready_215 rfl (lv_at hl 1 rfl) ?_
        refine lv_iconst (v := 1) hx hb d_MO_ready_216 (by decide) ?_
        obtain ⟨cB217, hcB217, hoB217, hkB217⟩ := xw_recv (r := 15) (i := 0) hK hX (by decide) rfl rfl
        refine xc_f (rest := []) (x_invV (argsL := [.int v, .int (1 : Int32)]) hx hb hown (hts _ w_738) (hts _ w_740) (hts _ w_29) (x_code (hts _ w_741)) ⟨by decide, by decide⟩ hcB217 hoB217 hkB217 rfl rfl rfl d_MO_ready_217) (c_MO_isBeyond h0 σ v (1 : Int32) hv) (xs_cw h0 hW0 m_741) (hts _ w_38) ⟨rfl, rfl, Nat.le_of_ble_eq_true rfl, Nat.le_of_ble_eq_true rfl⟩ (hl.1.trans hml.symm) (by rw [hb]; exact d_MO_ready_217) (Nat.le_of_ble_eq_true rfl) ⟨Nat.le_of_ble_eq_true rfl, Nat.le_of_ble_eq_true rfl⟩ hX ⟨hW0, xo_S hS⟩ ?_
        refine lv_if_eq (tgt := 228) hx hb d_MO_ready_220 (by decide) (fun c220 => ?_) (fun c220 => ?_)
        · rw [if_pos c220] at hR
          refine lv_iconst (v := 0) hx hb d_MO_ready_228 (by decide) ?_
          subst hR
          refine W.widen (k := 0) (n := 0) (by decide) (by decide) ?_; exact xs_i hx hb hr hlocks hX hS d_MO_ready_229
        · rw [if_neg c220] at hR
          refine lv_bipush (v := 6) hx hb d_MO_ready_223 (by decide) ?_
          refine lv_goto (tgt := 229) hx hb d_MO_ready_225 (by decide) ?_
          subst hR
          refine W.widen (k := 0) (n := 0) (by decide) (by decide) ?_; exact xs_i hx hb hr hlocks hX hS d_MO_ready_229
    · rw [if_neg c165] at hR
      have hq : k < 30 := x_klt (b := 30) rfl (by decide) (by omega) e_x2 c165
      have hkx : vp_in x2 30 := o_nI e_x2 hq (by decide)
      refine lv_aload_n hx hb d_MO_ready_168 rfl (lv_at hl 0 rfl) ?_
      refine lv_iload_n hx hb d_MO_ready_169 rfl (lv_at hl 1 rfl) ?_
      refine lv_iload_n hx hb d_MO_ready_170 rfl (lv_at hl 2 rfl) ?_
      obtain ⟨cB171, hcB171, hoB171, hkB171⟩ := xw_recv (r := 15) (i := 0) hK hX (by decide) rfl rfl
      refine xc_f (rest := []) (x_invV (argsL := [.int v, .int x2]) hx hb hown (hts _ w_786) (hts _ w_788) (hts _ w_32) (x_code (hts _ w_789)) ⟨by decide, by decide⟩ hcB171 hoB171 hkB171 rfl rfl rfl d_MO_ready_171) (c_MO_isNeeded h0 σ v x2 hok.2.1 hv hkx) (xs_cw h0 hW0 m_789) (hts _ w_38) ⟨rfl, rfl, Nat.le_of_ble_eq_true rfl, Nat.le_of_ble_eq_true rfl⟩ (hl.1.trans hml.symm) (by rw [hb]; exact d_MO_ready_171) (Nat.le_of_ble_eq_true rfl) ⟨Nat.le_of_ble_eq_true rfl, Nat.le_of_ble_eq_true rfl⟩ hX ⟨hW0, xo_S hS⟩ ?_
      refine lv_if_eq (tgt := 199) hx hb d_MO_ready_174 (by decide) (fun c174 => ?_) (fun c174 => ?_)
      · rw [if_pos c174] at hR
        refine lv_iinc (v := (x2 + 1)) (lv' := [(2, .int (x2 + 1)), (0, .ref (xB s0 + XA 15 0)), (1, .int v)]) hx hb d_MO_ready_199 hl (k := 2) rfl rfl (by decide) rfl (fun ls hl => ?_)
        refine lv_goto (tgt := 162) hx hb d_MO_ready_202 (by decide) ?_
        exact ih σ v (x2 + 1) (k + 1) (by rw [e_x2]; exact nI_1 k) (by omega) (by omega)  hok hv hX hS ls (lv_sub hl [1, 2, 0] rfl) res hR
      · rw [if_neg c174] at hR
        refine lv_aload_n hx hb d_MO_ready_177 rfl (lv_at hl 0 rfl) ?_
        refine xw_get (C := R_MO) (T := F_MO) (N := 20) (r := 15) (i := 0) hx hb hts hi_MO hown hK hX (by decide) rfl rfl 15 (by decide) (hts _ w_610) rfl rfl d_MO_ready_178 ?_
        refine lv_bipush (v := 30) hx hb d_MO_ready_181 (by decide) ?_
        refine lv_iload_n hx hb d_MO_ready_183 rfl (lv_at hl 1 rfl) ?_
        refine lv_imul hx hb d_MO_ready_184 ?_
        refine lv_iload_n hx hb d_MO_ready_185 rfl (lv_at hl 2 rfl) ?_
        refine lv_iadd hx hb d_MO_ready_186 ?_
        refine xw_iald (r := 27) (i := 0) hx hb hK hX (by decide) 0 rfl rfl (j := (((30 : Int32) * v) + x2)) (o_30 hv hkx) d_MO_ready_187 ?_
        refine lv_aload_n hx hb d_MO_ready_188 rfl (lv_at hl 0 rfl) ?_
        refine xw_get (C := R_MO) (T := F_MO) (N := 20) (r := 15) (i := 0) hx hb hts hi_MO hown hK hX (by decide) rfl rfl 4 (by decide) (hts _ w_599) rfl rfl d_MO_ready_189 ?_
        refine lv_iload_n hx hb d_MO_ready_192 rfl (lv_at hl 2 rfl) ?_
        refine xw_iald (r := 17) (i := 0) hx hb hK hX (by decide) 0 rfl rfl (j := x2) hkx d_MO_ready_193 ?_
        refine lv_icmp_ge (tgt := 199) hx hb d_MO_ready_194 (by decide) (fun c194 => ?_) (fun c194 => ?_)
        · rw [if_pos c194] at hR
          refine lv_iinc (v := (x2 + 1)) (lv' := [(2, .int (x2 + 1)), (0, .ref (xB s0 + XA 15 0)), (1, .int v)]) hx hb d_MO_ready_199 hl (k := 2) rfl rfl (by decide) rfl (fun ls hl => ?_)
          refine lv_goto (tgt := 162) hx hb d_MO_ready_202 (by decide) ?_
          exact ih σ v (x2 + 1) (k + 1) (by rw [e_x2]; exact nI_1 k) (by omega) (by omega)  hok hv hX hS ls (lv_sub hl [1, 2, 0] rfl) res hR
        · rw [if_neg c194] at hR
          refine lv_iconst (v := 5) hx hb d_MO_ready_197 (by decide) ?_
          subst hR
          refine W.widen (k := 0) (n := 0) (by decide) (by decide) ?_; exact xs_i hx hb hr hlocks hX hS d_MO_ready_198
set_option maxHeartbeats 4000000 in
set_option maxRecDepth 100000 in
theorem l_MO_ready_105 {l : Launch} {s0 : State} {A0 : Array Value} {D : va_G} {dA : Nat → ClassId} (h0 : XS0 l s0 A0 D dA) {p : Program} {e : Env} {s : State} {m : MethodId} {args : Array Value} {below : List Frame} {meth : Method} {c : Code} (hx : p.tables.exec = Jvm.exec) (hb : c.code = b_MO_ready) (hr : meth.sig.returnType = (some .int)) (hml : c.maxLocals = 3) (hown : s.vm.findClass "LoadChecksModel" = some m.cls) (hlocks : meth.locks = false) (hnt : c.exceptionTable.isEmpty = true) (hO : XO s0 s s.heap) :
    ∀ (n : Nat) (σ : XS) (v : Int32) (x2 : Int32) (k : Nat), x2 = nI k → k + n = 31 → k < 31 → MOk σ → vp_in v 16 → ∀ {H : Heap} {locs : List Loc}, XWs D dA s0 σ H → va_S (xAm s0) s0.heap H locs → ∀ (ls : Array Slot), lv_has ls 3 [(0, .ref (xB s0 + XA 15 0)), (1, .int v), (2, .int x2)] → ∀ res, L_MO_ready_105 n σ v x2 = res →
    W p l e rm_MO_ready s m args below meth c H locs 0 0 (XMQ below (XQs D dA s0 xv_i (.inl res)) args s 0 0 (xAm s0)) (F0 m 105 ls []) := by
  have hW0 := hO.1
  have hts := xs_w (args := args) h0 hW0
  have hK := xs_K h0 hW0
  intro n
  induction n with
  | zero =>
    intro σ v x2 k e1 h2 h3
    exact absurd h2 (by omega)
  | succ n ih =>
    intro σ v x2 k e_x2 hkn hkF hok hv H locs hX hS ls hl res hR
    rw [L_MO_ready_105] at hR
    refine lv_iload_n hx hb d_MO_ready_105 rfl (lv_at hl 2 rfl) ?_
    refine lv_bipush (v := 30) hx hb d_MO_ready_106 (by decide) ?_
    refine lv_icmp_ge (tgt := 160) hx hb d_MO_ready_108 (by decide) (fun c108 => ?_) (fun c108 => ?_)
    · rw [if_pos c108] at hR
      refine lv_iconst (v := 0) hx hb d_MO_ready_160 (by decide) ?_
      refine lv_istore_n (lv' := [(2, .int (0 : Int32)), (0, .ref (xB s0 + XA 15 0)), (1, .int v)]) hx hb d_MO_ready_161 rfl hl (by decide) rfl (fun ls hl => ?_)
      exact l_MO_ready_162 h0 hx hb hr hml hown hlocks hnt hO 31 σ v (0 : Int32) 0 nI_0.symm rfl (by decide)  hok hv hX hS ls (lv_sub hl [1, 2, 0] rfl) res hR
    · rw [if_neg c108] at hR
      have hq : k < 30 := x_klt (b := 30) rfl (by decide) (by omega) e_x2 c108
      have hkx : vp_in x2 30 := o_nI e_x2 hq (by decide)
      refine lv_aload_n hx hb d_MO_ready_111 rfl (lv_at hl 0 rfl) ?_
      refine lv_iload_n hx hb d_MO_ready_112 rfl (lv_at hl 1 rfl) ?_
      refine lv_iload_n hx hb d_MO_ready_113 rfl (lv_at hl 2 rfl) ?_
      obtain ⟨cB114, hcB114, hoB114, hkB114⟩ := xw_recv (r := 15) (i := 0) hK hX (by decide) rfl rfl
      refine xc_f (rest := []) (x_invV (argsL := [.int v, .int x2]) hx hb hown (hts _ w_786) (hts _ w_788) (hts _ w_32) (x_code (hts _ w_789)) ⟨by decide, by decide⟩ hcB114 hoB114 hkB114 rfl rfl rfl d_MO_ready_114) (c_MO_isNeeded h0 σ v x2 hok.2.1 hv hkx) (xs_cw h0 hW0 m_789) (hts _ w_38) ⟨rfl, rfl, Nat.le_of_ble_eq_true rfl, Nat.le_of_ble_eq_true rfl⟩ (hl.1.trans hml.symm) (by rw [hb]; exact d_MO_ready_114) (Nat.le_of_ble_eq_true rfl) ⟨Nat.le_of_ble_eq_true rfl, Nat.le_of_ble_eq_true rfl⟩ hX ⟨hW0, xo_S hS⟩ ?_
      refine lv_if_eq (tgt := 154) hx hb d_MO_ready_117 (by decide) (fun c117 => ?_) (fun c117 => ?_)
      · rw [if_pos c117] at hR
        refine lv_iinc (v := (x2 + 1)) (lv' := [(2, .int (x2 + 1)), (0, .ref (xB s0 + XA 15 0)), (1, .int v)]) hx hb d_MO_ready_154 hl (k := 2) rfl rfl (by decide) rfl (fun ls hl => ?_)
        refine lv_goto (tgt := 105) hx hb d_MO_ready_157 (by decide) ?_
        exact ih σ v (x2 + 1) (k + 1) (by rw [e_x2]; exact nI_1 k) (by omega) (by omega)  hok hv hX hS ls (lv_sub hl [1, 2, 0] rfl) res hR
      · rw [if_neg c117] at hR
        refine lv_aload_n hx hb d_MO_ready_120 rfl (lv_at hl 0 rfl) ?_
        refine xw_get (C := R_MO) (T := F_MO) (N := 20) (r := 15) (i := 0) hx hb hts hi_MO hown hK hX (by decide) rfl rfl 14 (by decide) (hts _ w_609) rfl rfl d_MO_ready_121 ?_
        refine lv_bipush (v := 30) hx hb d_MO_ready_124 (by decide) ?_
        refine lv_iload_n hx hb d_MO_ready_126 rfl (lv_at hl 1 rfl) ?_
        refine lv_imul hx hb d_MO_ready_127 ?_
        refine lv_iload_n hx hb d_MO_ready_128 rfl (lv_at hl 2 rfl) ?_
        refine lv_iadd hx hb d_MO_ready_129 ?_
        refine xw_iald (r := 26) (i := 0) hx hb hK hX (by decide) 0 rfl rfl (j := (((30 : Int32) * v) + x2)) (o_30 hv hkx) d_MO_ready_130 ?_
        refine lv_if_lt (tgt := 154) hx hb d_MO_ready_131 (by decide) (fun c131 => ?_) (fun c131 => ?_)
        · rw [if_pos c131] at hR
          refine lv_iinc (v := (x2 + 1)) (lv' := [(2, .int (x2 + 1)), (0, .ref (xB s0 + XA 15 0)), (1, .int v)]) hx hb d_MO_ready_154 hl (k := 2) rfl rfl (by decide) rfl (fun ls hl => ?_)
          refine lv_goto (tgt := 105) hx hb d_MO_ready_157 (by decide) ?_
          exact ih σ v (x2 + 1) (k + 1) (by rw [e_x2]; exact nI_1 k) (by omega) (by omega)  hok hv hX hS ls (lv_sub hl [1, 2, 0] rfl) res hR
        · rw [if_neg c131] at hR
          refine lv_aload_n hx hb d_MO_ready_134 rfl (lv_at hl 0 rfl) ?_
          refine xw_get (C := R_MO) (T := F_MO) (N := 20) (r := 15) (i := 0) hx hb hts hi_MO hown hK hX (by decide) rfl rfl 1 (by decide) (hts _ w_596) rfl rfl d_MO_ready_135 ?_
          refine lv_aload_n hx hb d_MO_ready_138 rfl (lv_at hl 0 rfl) ?_
          refine xw_get (C := R_MO) (T := F_MO) (N := 20) (r := 15) (i := 0) hx hb hts hi_MO hown hK hX (by decide) rfl rfl 14 (by decide) (hts _ w_609) rfl rfl d_MO_ready_139 ?_
          refine lv_bipush (v := 30) hx hb d_MO_ready_142 (by decide) ?_
          refine lv_iload_n hx hb d_MO_ready_144 rfl (lv_at hl 1 rfl) ?_
          refine lv_imul hx hb d_MO_ready_145 ?_
          refine lv_iload_n hx hb d_MO_ready_146 rfl (lv_at hl 2 rfl) ?_
          refine lv_iadd hx hb d_MO_ready_147 ?_
          refine xw_iald (r := 26) (i := 0) hx hb hK hX (by decide) 0 rfl rfl (j := (((30 : Int32) * v) + x2)) (o_30 hv hkx) d_MO_ready_148 ?_
          refine lv_icmp_lt (tgt := 154) hx hb d_MO_ready_149 (by decide) (fun c149 => ?_) (fun c149 => ?_)
          · rw [if_pos c149] at hR
            refine lv_iinc (v := (x2 + 1)) (lv' := [(2, .int (x2 + 1)), (0, .ref (xB s0 + XA 15 0)), (1, .int v)]) hx hb d_MO_ready_154 hl (k := 2) rfl rfl (by decide) rfl (fun ls hl => ?_)
            refine lv_goto (tgt := 105) hx hb d_MO_ready_157 (by decide) ?_
            exact ih σ v (x2 + 1) (k + 1) (by rw [e_x2]; exact nI_1 k) (by omega) (by omega)  hok hv hX hS ls (lv_sub hl [1, 2, 0] rfl) res hR
          · rw [if_neg c149] at hR
            refine lv_iconst (v := 4) hx hb d_MO_ready_152 (by decide) ?_
            subst hR
            refine W.widen (k := 0) (n := 0) (by decide) (by decide) ?_; exact xs_i hx hb hr hlocks hX hS d_MO_ready_153
set_option maxHeartbeats 4000000 in
set_option maxRecDepth 100000 in
theorem l_MO_ready_75 {l : Launch} {s0 : State} {A0 : Array Value} {D : va_G} {dA : Nat → ClassId} (h0 : XS0 l s0 A0 D dA) {p : Program} {e : Env} {s : State} {m : MethodId} {args : Array Value} {below : List Frame} {meth : Method} {c : Code} (hx : p.tables.exec = Jvm.exec) (hb : c.code = b_MO_ready) (hr : meth.sig.returnType = (some .int)) (hml : c.maxLocals = 3) (hown : s.vm.findClass "LoadChecksModel" = some m.cls) (hlocks : meth.locks = false) (hnt : c.exceptionTable.isEmpty = true) (hO : XO s0 s s.heap) :
    ∀ (n : Nat) (σ : XS) (v : Int32) (x2 : Int32) (k : Nat), x2 = nI k → k + n = 9 → k < 9 → MOk σ → vp_in v 16 → ∀ {H : Heap} {locs : List Loc}, XWs D dA s0 σ H → va_S (xAm s0) s0.heap H locs → ∀ (ls : Array Slot), lv_has ls 3 [(0, .ref (xB s0 + XA 15 0)), (1, .int v), (2, .int x2)] → ∀ res, L_MO_ready_75 n σ v x2 = res →
    W p l e rm_MO_ready s m args below meth c H locs 0 0 (XMQ below (XQs D dA s0 xv_i (.inl res)) args s 0 0 (xAm s0)) (F0 m 75 ls []) := by
  have hW0 := hO.1
  have hts := xs_w (args := args) h0 hW0
  have hK := xs_K h0 hW0
  intro n
  induction n with
  | zero =>
    intro σ v x2 k e1 h2 h3
    exact absurd h2 (by omega)
  | succ n ih =>
    intro σ v x2 k e_x2 hkn hkF hok hv H locs hX hS ls hl res hR
    rw [L_MO_ready_75] at hR
    refine lv_iload_n hx hb d_MO_ready_75 rfl (lv_at hl 2 rfl) ?_
    refine lv_bipush (v := 8) hx hb d_MO_ready_76 (by decide) ?_
    refine lv_icmp_ge (tgt := 103) hx hb d_MO_ready_78 (by decide) (fun c78 => ?_) (fun c78 => ?_)
    · rw [if_pos c78] at hR
      refine lv_iconst (v := 0) hx hb d_MO_ready_103 (by decide) ?_
      refine lv_istore_n (lv' := [(2, .int (0 : Int32)), (0, .ref (xB s0 + XA 15 0)), (1, .int v)]) hx hb d_MO_ready_104 rfl hl (by decide) rfl (fun ls hl => ?_)
      exact l_MO_ready_105 h0 hx hb hr hml hown hlocks hnt hO 31 σ v (0 : Int32) 0 nI_0.symm rfl (by decide)  hok hv hX hS ls (lv_sub hl [1, 2, 0] rfl) res hR
    · rw [if_neg c78] at hR
      have hq : k < 8 := x_klt (b := 8) rfl (by decide) (by omega) e_x2 c78
      have hkx : vp_in x2 8 := o_nI e_x2 hq (by decide)
      refine lv_aload_n hx hb d_MO_ready_81 rfl (lv_at hl 0 rfl) ?_
      refine xw_get (C := R_MO) (T := F_MO) (N := 20) (r := 15) (i := 0) hx hb hts hi_MO hown hK hX (by decide) rfl rfl 13 (by decide) (hts _ w_608) rfl rfl d_MO_ready_82 ?_
      refine lv_bipush (v := 8) hx hb d_MO_ready_85 (by decide) ?_
      refine lv_iload_n hx hb d_MO_ready_87 rfl (lv_at hl 1 rfl) ?_
      refine lv_imul hx hb d_MO_ready_88 ?_
      refine lv_iload_n hx hb d_MO_ready_89 rfl (lv_at hl 2 rfl) ?_
      refine lv_iadd hx hb d_MO_ready_90 ?_
      refine xw_zald (r := 25) (i := 0) hx hb hK hX (by decide) 1 rfl rfl (j := (((8 : Int32) * v) + x2)) (o_8 hv hkx) d_MO_ready_91 ?_
      refine lv_if_eq (tgt := 97) hx hb d_MO_ready_92 (by decide) (fun c92 => ?_) (fun c92 => ?_)
      · rw [if_pos c92] at hR
        refine lv_iinc (v := (x2 + 1)) (lv' := [(2, .int (x2 + 1)), (0, .ref (xB s0 + XA 15 0)), (1, .int v)]) hx hb d_MO_ready_97 hl (k := 2) rfl rfl (by decide) rfl (fun ls hl => ?_)
        refine lv_goto (tgt := 75) hx hb d_MO_ready_100 (by decide) ?_
        exact ih σ v (x2 + 1) (k + 1) (by rw [e_x2]; exact nI_1 k) (by omega) (by omega)  hok hv hX hS ls (lv_sub hl [1, 2, 0] rfl) res hR
      · rw [if_neg c92] at hR
        refine lv_iconst (v := 3) hx hb d_MO_ready_95 (by decide) ?_
        subst hR
        refine W.widen (k := 0) (n := 0) (by decide) (by decide) ?_; exact xs_i hx hb hr hlocks hX hS d_MO_ready_96
set_option maxHeartbeats 4000000 in
set_option maxRecDepth 100000 in
theorem l_MO_ready_49 {l : Launch} {s0 : State} {A0 : Array Value} {D : va_G} {dA : Nat → ClassId} (h0 : XS0 l s0 A0 D dA) {p : Program} {e : Env} {s : State} {m : MethodId} {args : Array Value} {below : List Frame} {meth : Method} {c : Code} (hx : p.tables.exec = Jvm.exec) (hb : c.code = b_MO_ready) (hr : meth.sig.returnType = (some .int)) (hml : c.maxLocals = 3) (hown : s.vm.findClass "LoadChecksModel" = some m.cls) (hlocks : meth.locks = false) (hnt : c.exceptionTable.isEmpty = true) (hO : XO s0 s s.heap) :
    ∀ (n : Nat) (σ : XS) (v : Int32) (x2 : Int32) (k : Nat), x2 = nI k → k + n = 241 → k < 241 → MOk σ → vp_in v 16 → ∀ {H : Heap} {locs : List Loc}, XWs D dA s0 σ H → va_S (xAm s0) s0.heap H locs → ∀ (ls : Array Slot), lv_has ls 3 [(0, .ref (xB s0 + XA 15 0)), (1, .int v), (2, .int x2)] → ∀ res, L_MO_ready_49 n σ v x2 = res →
    W p l e rm_MO_ready s m args below meth c H locs 0 0 (XMQ below (XQs D dA s0 xv_i (.inl res)) args s 0 0 (xAm s0)) (F0 m 49 ls []) := by
  have hW0 := hO.1
  have hts := xs_w (args := args) h0 hW0
  have hK := xs_K h0 hW0
  intro n
  induction n with
  | zero =>
    intro σ v x2 k e1 h2 h3
    exact absurd h2 (by omega)
  | succ n ih =>
    intro σ v x2 k e_x2 hkn hkF hok hv H locs hX hS ls hl res hR
    rw [L_MO_ready_49] at hR
    refine lv_iload_n hx hb d_MO_ready_49 rfl (lv_at hl 2 rfl) ?_
    refine lv_sipush (v := 240) hx hb d_MO_ready_50 (by decide) ?_
    refine lv_icmp_ge (tgt := 73) hx hb d_MO_ready_53 (by decide) (fun c53 => ?_) (fun c53 => ?_)
    · rw [if_pos c53] at hR
      refine lv_iconst (v := 0) hx hb d_MO_ready_73 (by decide) ?_
      refine lv_istore_n (lv' := [(2, .int (0 : Int32)), (0, .ref (xB s0 + XA 15 0)), (1, .int v)]) hx hb d_MO_ready_74 rfl hl (by decide) rfl (fun ls hl => ?_)
      exact l_MO_ready_75 h0 hx hb hr hml hown hlocks hnt hO 9 σ v (0 : Int32) 0 nI_0.symm rfl (by decide)  hok hv hX hS ls (lv_sub hl [1, 2, 0] rfl) res hR
    · rw [if_neg c53] at hR
      have hq : k < 240 := x_klt (b := 240) rfl (by decide) (by omega) e_x2 c53
      have hkx : vp_in x2 240 := o_nI e_x2 hq (by decide)
      refine lv_aload_n hx hb d_MO_ready_56 rfl (lv_at hl 0 rfl) ?_
      refine lv_iload_n hx hb d_MO_ready_57 rfl (lv_at hl 1 rfl) ?_
      refine lv_iload_n hx hb d_MO_ready_58 rfl (lv_at hl 2 rfl) ?_
      obtain ⟨cB59, hcB59, hoB59, hkB59⟩ := xw_recv (r := 15) (i := 0) hK hX (by decide) rfl rfl
      refine xc_f (rest := []) (x_invV (argsL := [.int v, .int x2]) hx hb hown (hts _ w_750) (hts _ w_752) (hts _ w_30) (x_code (hts _ w_753)) ⟨by decide, by decide⟩ hcB59 hoB59 hkB59 rfl rfl rfl d_MO_ready_59) (c_MO_missingOf h0 σ v x2 hok.2.1 hv hkx) (xs_cw h0 hW0 m_753) (hts _ w_38) ⟨rfl, rfl, Nat.le_of_ble_eq_true rfl, Nat.le_of_ble_eq_true rfl⟩ (hl.1.trans hml.symm) (by rw [hb]; exact d_MO_ready_59) (Nat.le_of_ble_eq_true rfl) ⟨Nat.le_of_ble_eq_true rfl, Nat.le_of_ble_eq_true rfl⟩ hX ⟨hW0, xo_S hS⟩ ?_
      refine lv_if_le (tgt := 67) hx hb d_MO_ready_62 (by decide) (fun c62 => ?_) (fun c62 => ?_)
      · rw [if_pos c62] at hR
        refine lv_iinc (v := (x2 + 1)) (lv' := [(2, .int (x2 + 1)), (0, .ref (xB s0 + XA 15 0)), (1, .int v)]) hx hb d_MO_ready_67 hl (k := 2) rfl rfl (by decide) rfl (fun ls hl => ?_)
        refine lv_goto (tgt := 49) hx hb d_MO_ready_70 (by decide) ?_
        exact ih σ v (x2 + 1) (k + 1) (by rw [e_x2]; exact nI_1 k) (by omega) (by omega)  hok hv hX hS ls (lv_sub hl [1, 2, 0] rfl) res hR
      · rw [if_neg c62] at hR
        refine lv_iconst (v := 2) hx hb d_MO_ready_65 (by decide) ?_
        subst hR
        refine W.widen (k := 0) (n := 0) (by decide) (by decide) ?_; exact xs_i hx hb hr hlocks hX hS d_MO_ready_66
set_option maxHeartbeats 4000000 in
set_option maxRecDepth 100000 in
theorem c_MO_ready {l : Launch} {s0 : State} {A0 : Array Value} {D : va_G} {dA : Nat → ClassId} (h0 : XS0 l s0 A0 D dA) (σ : XS) (v : Int32) (hok : MOk σ) : XMet l y_MO_ready [cw_MO_ready] rm_MO_ready (XP D dA s0 σ [.ref (xB s0 + XA 15 0), .int v]) (XQs D dA s0 xv_i (.inl (S_MO_ready σ v))) 0 0 (xAm s0) := by
  refine XMet.ofW (cc := b_MO_ready) (maxL := 3) (ret := (some .int)) (by decide) rfl ?_
  intro p e s m args below meth c s₁ Bd hml hvA
  obtain ⟨rfl, hX, hO⟩ := hvA
  have hx := Bd.exec
  have hb := Bd.bytes
  have hr := Bd.returns
  have hown : s.vm.findClass "LoadChecksModel" = some m.cls := findClass_of_methodNamed Bd.named
  have hlocks := Bd.notSynchronized
  have hnt : c.exceptionTable.isEmpty = true := Bd.noHandlers (atoms_spec (ws := [cw_MO_ready]) Bd.pre _ List.mem_cons_self)
  have hW0 := hO.1
  have hts := xs_w (args := ([.ref (xB s0 + XA 15 0), .int v] : List Value).toArray) h0 hW0
  have hK := xs_K h0 hW0
  have hS := xo_S0 hO
  have hl := lv_entry ([.ref (xB s0 + XA 15 0), .int v]) (n := 3) (Nat.le_of_ble_eq_true rfl)
  rw [lg_entry_eq]
  generalize (lg_sl ([.ref (xB s0 + XA 15 0), .int v]) ++ List.replicate (3 - (lg_sl ([.ref (xB s0 + XA 15 0), .int v])).length) Slot.unset).toArray = ls at hl ⊢
  have hl : lv_has ls 3 [(0, .ref (xB s0 + XA 15 0)), (1, .int v)] := hl
  generalize hR : S_MO_ready σ v = res
  unfold S_MO_ready at hR
  refine lv_aload_n hx hb d_MO_ready_0 rfl (lv_at hl 0 rfl) ?_
  refine lv_aload_n hx hb d_MO_ready_1 rfl (lv_at hl 0 rfl) ?_
  refine lv_iload_n hx hb d_MO_ready_2 rfl (lv_at hl 1 rfl) ?_
  obtain ⟨cB3, hcB3, hoB3, hkB3⟩ := xw_recv (r := 15) (i := 0) hK hX (by decide) rfl rfl
  refine xc_f (rest := [.ref (xB s0 + XA 15 0)]) (x_invV (argsL := [.int v]) hx hb hown (hts _ w_679) (hts _ w_681) (hts _ w_21) (x_code (hts _ w_682)) ⟨by decide, by decide⟩ hcB3 hoB3 hkB3 rfl rfl rfl d_MO_ready_3) (c_MO_isVehicle h0 σ v) (xs_cw h0 hW0 m_682) (hts _ w_38) ⟨rfl, rfl, Nat.le_of_ble_eq_true rfl, Nat.le_of_ble_eq_true rfl⟩ (hl.1.trans hml.symm) (by rw [hb]; exact d_MO_ready_3) (Nat.le_of_ble_eq_true rfl) ⟨Nat.le_of_ble_eq_true rfl, Nat.le_of_ble_eq_true rfl⟩ hX ⟨hW0, xo_S hS⟩ ?_
  refine lv_if_ne (tgt := 13) hx hb d_MO_ready_6 (by decide) (fun c6 => ?_) (fun c6 => ?_)
  · rw [if_neg c6] at hR
    have hv := m_veh hok c6
    refine lv_iconst (v := 0) hx hb d_MO_ready_13 (by decide) ?_
    refine lv_iconst (v := 0) hx hb d_MO_ready_14 (by decide) ?_
    refine lv_iconst (v := 0) hx hb d_MO_ready_15 (by decide) ?_
    refine lv_iconst (v := 0) hx hb d_MO_ready_16 (by decide) ?_
    obtain ⟨cB17, hcB17, hoB17, hkB17⟩ := xw_recv (r := 15) (i := 0) hK hX (by decide) rfl rfl
    refine xc_s (rest := []) (x_invV (argsL := [.int (0 : Int32), .int (0 : Int32), .int (0 : Int32), .int (0 : Int32)]) hx hb hown (hts _ w_671) (hts _ w_673) (hts _ w_20) (x_code (hts _ w_674)) ⟨by decide, by decide⟩ hcB17 hoB17 hkB17 rfl rfl rfl d_MO_ready_17) (c_MO_throwing h0 σ (0 : Int32) (0 : Int32) (0 : Int32) (0 : Int32)) (xs_cw h0 hW0 m_674) (hts _ w_38) ⟨rfl, rfl, Nat.le_of_ble_eq_true rfl, Nat.le_of_ble_eq_true rfl⟩ (hl.1.trans hml.symm) (by rw [hb]; exact d_MO_ready_17) (Nat.le_of_ble_eq_true rfl) ⟨Nat.le_of_ble_eq_true rfl, Nat.le_of_ble_eq_true rfl⟩ hX hW0 hS (fun v17 σ17 H locs hM17 hX hS => ?_) (fun E x H1 locs1 hM => by cases hM)
    obtain ⟨ev17, es17⟩ := x_inl hM17
    subst es17
    subst ev17
    refine lv_if_eq (tgt := 25) hx hb d_MO_ready_20 (by decide) (fun c20 => ?_) (fun c20 => ?_)
    · refine lv_aload_n hx hb d_MO_ready_25 rfl (lv_at hl 0 rfl) ?_
      refine xw_get (C := R_MO) (T := F_MO) (N := 20) (r := 15) (i := 0) hx hb hts hi_MO hown hK hX (by decide) rfl rfl 11 (by decide) (hts _ w_606) rfl rfl d_MO_ready_26 ?_
      refine lv_iload_n hx hb d_MO_ready_29 rfl (lv_at hl 1 rfl) ?_
      refine xw_iald (r := 23) (i := 0) hx hb hK hX (by decide) 0 rfl rfl (j := v) hv d_MO_ready_30 ?_
      refine lv_iconst (v := 3) hx hb d_MO_ready_31 (by decide) ?_
      refine lv_aload_n hx hb d_MO_ready_32 rfl (lv_at hl 0 rfl) ?_
      refine xw_get (C := R_MO) (T := F_MO) (N := 20) (r := 15) (i := 0) hx hb hts hi_MO hown hK hX (by decide) rfl rfl 1 (by decide) (hts _ w_596) rfl rfl d_MO_ready_33 ?_
      refine lv_imul hx hb d_MO_ready_36 ?_
      refine lv_aload_n hx hb d_MO_ready_37 rfl (lv_at hl 0 rfl) ?_
      refine xw_get (C := R_MO) (T := F_MO) (N := 20) (r := 15) (i := 0) hx hb hts hi_MO hown hK hX (by decide) rfl rfl 2 (by decide) (hts _ w_597) rfl rfl d_MO_ready_38 ?_
      refine lv_iadd hx hb d_MO_ready_41 ?_
      refine lv_icmp_eq (tgt := 47) hx hb d_MO_ready_42 (by decide) (fun c42 => ?_) (fun c42 => ?_)
      · rw [if_pos c42] at hR
        refine lv_iconst (v := 0) hx hb d_MO_ready_47 (by decide) ?_
        refine lv_istore_n (lv' := [(2, .int (0 : Int32)), (0, .ref (xB s0 + XA 15 0)), (1, .int v)]) hx hb d_MO_ready_48 rfl hl (by decide) rfl (fun ls hl => ?_)
        exact l_MO_ready_49 h0 hx hb hr hml hown hlocks hnt hO 241 ((S_MO_throwing σ (0 : Int32) (0 : Int32) (0 : Int32) (0 : Int32)).2) v (0 : Int32) 0 nI_0.symm rfl (by decide)  hok hv hX hS ls (lv_sub hl [1, 2, 0] rfl) res hR
      · rw [if_neg c42] at hR
        refine lv_iconst (v := 1) hx hb d_MO_ready_45 (by decide) ?_
        subst hR
        refine W.widen (k := 0) (n := 0) (by decide) (by decide) ?_; exact xs_i hx hb hr hlocks hX hS d_MO_ready_46
    · exact absurd thr_z c20
  · rw [if_pos c6] at hR
    refine lv_iconst (v := 1) hx hb d_MO_ready_9 (by decide) ?_
    refine lv_goto (tgt := 14) hx hb d_MO_ready_10 (by decide) ?_
    refine lv_iconst (v := 0) hx hb d_MO_ready_14 (by decide) ?_
    refine lv_iconst (v := 0) hx hb d_MO_ready_15 (by decide) ?_
    refine lv_iconst (v := 0) hx hb d_MO_ready_16 (by decide) ?_
    obtain ⟨cB17, hcB17, hoB17, hkB17⟩ := xw_recv (r := 15) (i := 0) hK hX (by decide) rfl rfl
    refine xc_s (rest := []) (x_invV (argsL := [.int (1 : Int32), .int (0 : Int32), .int (0 : Int32), .int (0 : Int32)]) hx hb hown (hts _ w_671) (hts _ w_673) (hts _ w_20) (x_code (hts _ w_674)) ⟨by decide, by decide⟩ hcB17 hoB17 hkB17 rfl rfl rfl d_MO_ready_17) (c_MO_throwing h0 σ (1 : Int32) (0 : Int32) (0 : Int32) (0 : Int32)) (xs_cw h0 hW0 m_674) (hts _ w_38) ⟨rfl, rfl, Nat.le_of_ble_eq_true rfl, Nat.le_of_ble_eq_true rfl⟩ (hl.1.trans hml.symm) (by rw [hb]; exact d_MO_ready_17) (Nat.le_of_ble_eq_true rfl) ⟨Nat.le_of_ble_eq_true rfl, Nat.le_of_ble_eq_true rfl⟩ hX hW0 hS (fun v17 σ17 H locs hM17 hX hS => ?_) (fun E x H1 locs1 hM => by cases hM)
    obtain ⟨ev17, es17⟩ := x_inl hM17
    subst es17
    subst ev17
    refine lv_if_eq (tgt := 25) hx hb d_MO_ready_20 (by decide) (fun c20 => ?_) (fun c20 => ?_)
    · exact absurd c20 (thr_n1 (by decide))
    · refine lv_iconst (v := 0) hx hb d_MO_ready_23 (by decide) ?_
      subst hR
      refine W.widen (k := 0) (n := 0) (by decide) (by decide) ?_; exact xs_i hx hb hr hlocks hX hS d_MO_ready_24

abbrev rm_MO_missing : Room := { frames := 2, cells := 0, slots := 0, locals := 43 }
def L_MO_missing : Nat → XS → Int32 → Int32 → Int32 → Int32 × XS
  | 0, _, _, _, _ => default
  | n + 1, σ, v, lf, x4 => (if (240 : Int32) ≤ x4 then ((-1 : Int32), σ) else (if (S_MO_missingOf σ v x4) ≤ 0 then (L_MO_missing n σ v lf (x4 + 1)) else (if lf = 0 then (((((10000 : Int32) * (x4 / (30 : Int32))) + ((100 : Int32) * (x4 - x4 / (30 : Int32) * (30 : Int32)))) + (S_MO_missingOf σ v x4)), σ) else (L_MO_missing n σ v (lf + (-1)) (x4 + 1)))))
def S_MO_missing (σ : XS) (v : Int32) (q : Int32) : Int32 × XS := (if (S_MO_isVehicle σ v) = 0 then (if 0 ≤ q then ((0 : Int32), (S_MO_throwing σ (1 : Int32) (0 : Int32) (0 : Int32) (0 : Int32)).2) else ((0 : Int32), (S_MO_throwing σ (1 : Int32) (1 : Int32) (0 : Int32) (0 : Int32)).2)) else (if 0 ≤ q then (L_MO_missing 241 ((S_MO_throwing σ (0 : Int32) (0 : Int32) (0 : Int32) (0 : Int32)).2) v q (0 : Int32)) else ((0 : Int32), (S_MO_throwing σ (0 : Int32) (1 : Int32) (0 : Int32) (0 : Int32)).2)))
set_option maxHeartbeats 4000000 in
set_option maxRecDepth 100000 in
theorem l_MO_missing {l : Launch} {s0 : State} {A0 : Array Value} {D : va_G} {dA : Nat → ClassId} (h0 : XS0 l s0 A0 D dA) {p : Program} {e : Env} {s : State} {m : MethodId} {args : Array Value} {below : List Frame} {meth : Method} {c : Code} (hx : p.tables.exec = Jvm.exec) (hb : c.code = b_MO_missing) (hr : meth.sig.returnType = (some .int)) (hml : c.maxLocals = 5) (hown : s.vm.findClass "LoadChecksModel" = some m.cls) (hlocks : meth.locks = false) (hnt : c.exceptionTable.isEmpty = true) (hO : XO s0 s s.heap) :
    ∀ (n : Nat) (σ : XS) (v : Int32) (lf : Int32) (x4 : Int32) (k : Nat), x4 = nI k → k + n = 241 → k < 241 → MOk σ → vp_in v 16 → ∀ {H : Heap} {locs : List Loc}, XWs D dA s0 σ H → va_S (xAm s0) s0.heap H locs → ∀ (ls : Array Slot), lv_has ls 5 [(0, .ref (xB s0 + XA 15 0)), (1, .int v), (3, .int lf), (4, .int x4)] → ∀ res, L_MO_missing n σ v lf x4 = res →
    W p l e rm_MO_missing s m args below meth c H locs 0 0 (XMQ below (XQs D dA s0 xv_i (.inl res)) args s 0 0 (xAm s0)) (F0 m 38 ls []) := by
  have hW0 := hO.1
  have hts := xs_w (args := args) h0 hW0
  have hK := xs_K h0 hW0
  intro n
  induction n with
  | zero =>
    intro σ v lf x4 k e1 h2 h3
    exact absurd h2 (by omega)
  | succ n ih =>
    intro σ v lf x4 k e_x4 hkn hkF hok hv H locs hX hS ls hl res hR
    rw [L_MO_missing] at hR
    refine lv_iload hx hb d_MO_missing_38 (lv_at hl 3 rfl) ?_
    refine lv_sipush (v := 240) hx hb d_MO_missing_40 (by decide) ?_
    refine lv_icmp_ge (tgt := 96) hx hb d_MO_missing_43 (by decide) (fun c43 => ?_) (fun c43 => ?_)
    · rw [if_pos c43] at hR
      refine lv_iconst (v := -1) hx hb d_MO_missing_96 (by decide) ?_
      subst hR
      refine W.widen (k := 0) (n := 0) (by decide) (by decide) ?_; exact xs_i hx hb hr hlocks hX hS d_MO_missing_97
    · rw [if_neg c43] at hR
      have hq : k < 240 := x_klt (b := 240) rfl (by decide) (by omega) e_x4 c43
      have hkx : vp_in x4 240 := o_nI e_x4 hq (by decide)
      refine lv_aload_n hx hb d_MO_missing_46 rfl (lv_at hl 0 rfl) ?_
      refine lv_iload_n hx hb d_MO_missing_47 rfl (lv_at hl 1 rfl) ?_
      refine lv_iload hx hb d_MO_missing_48 (lv_at hl 3 rfl) ?_
      obtain ⟨cB50, hcB50, hoB50, hkB50⟩ := xw_recv (r := 15) (i := 0) hK hX (by decide) rfl rfl
      refine xc_f (rest := []) (x_invV (argsL := [.int v, .int x4]) hx hb hown (hts _ w_750) (hts _ w_752) (hts _ w_30) (x_code (hts _ w_753)) ⟨by decide, by decide⟩ hcB50 hoB50 hkB50 rfl rfl rfl d_MO_missing_50) (c_MO_missingOf h0 σ v x4 hok.2.1 hv hkx) (xs_cw h0 hW0 m_753) (hts _ w_38) ⟨rfl, rfl, Nat.le_of_ble_eq_true rfl, Nat.le_of_ble_eq_true rfl⟩ (hl.1.trans hml.symm) (by rw [hb]; exact d_MO_missing_50) (Nat.le_of_ble_eq_true rfl) ⟨Nat.le_of_ble_eq_true rfl, Nat.le_of_ble_eq_true rfl⟩ hX ⟨hW0, xo_S hS⟩ ?_
      refine lv_if_le (tgt := 90) hx hb d_MO_missing_53 (by decide) (fun c53 => ?_) (fun c53 => ?_)
      · rw [if_pos c53] at hR
        refine lv_iinc (v := (x4 + 1)) (lv' := [(4, .int (x4 + 1)), (0, .ref (xB s0 + XA 15 0)), (1, .int v), (3, .int lf)]) hx hb d_MO_missing_90 hl (k := 3) rfl rfl (by decide) rfl (fun ls hl => ?_)
        refine lv_goto (tgt := 38) hx hb d_MO_missing_93 (by decide) ?_
        exact ih σ v lf (x4 + 1) (k + 1) (by rw [e_x4]; exact nI_1 k) (by omega) (by omega)  hok hv hX hS ls (lv_sub hl [1, 2, 3, 0] rfl) res hR
      · rw [if_neg c53] at hR
        refine lv_iload_n hx hb d_MO_missing_56 rfl (lv_at hl 2 rfl) ?_
        refine lv_if_ne (tgt := 87) hx hb d_MO_missing_57 (by decide) (fun c57 => ?_) (fun c57 => ?_)
        · rw [if_neg c57] at hR
          refine lv_iinc (v := (lf + (-1))) (lv' := [(3, .int (lf + (-1))), (0, .ref (xB s0 + XA 15 0)), (1, .int v), (4, .int x4)]) hx hb d_MO_missing_87 hl (k := 2) rfl rfl (by decide) rfl (fun ls hl => ?_)
          refine lv_iinc (v := (x4 + 1)) (lv' := [(4, .int (x4 + 1)), (3, .int (lf + (-1))), (0, .ref (xB s0 + XA 15 0)), (1, .int v)]) hx hb d_MO_missing_90 hl (k := 3) rfl rfl (by decide) rfl (fun ls hl => ?_)
          refine lv_goto (tgt := 38) hx hb d_MO_missing_93 (by decide) ?_
          exact ih σ v (lf + (-1)) (x4 + 1) (k + 1) (by rw [e_x4]; exact nI_1 k) (by omega) (by omega)  hok hv hX hS ls (lv_sub hl [2, 3, 1, 0] rfl) res hR
        · rw [if_pos c57] at hR
          refine lv_sipush (v := 10000) hx hb d_MO_missing_60 (by decide) ?_
          refine lv_iload hx hb d_MO_missing_63 (lv_at hl 3 rfl) ?_
          refine lv_bipush (v := 30) hx hb d_MO_missing_65 (by decide) ?_
          refine lv_idiv hx hb d_MO_missing_67 (by decide) ?_
          refine lv_imul hx hb d_MO_missing_68 ?_
          refine lv_bipush (v := 100) hx hb d_MO_missing_69 (by decide) ?_
          refine lv_iload hx hb d_MO_missing_71 (lv_at hl 3 rfl) ?_
          refine lv_bipush (v := 30) hx hb d_MO_missing_73 (by decide) ?_
          refine lv_irem hx hb d_MO_missing_75 (by decide) ?_
          refine lv_imul hx hb d_MO_missing_76 ?_
          refine lv_iadd hx hb d_MO_missing_77 ?_
          refine lv_aload_n hx hb d_MO_missing_78 rfl (lv_at hl 0 rfl) ?_
          refine lv_iload_n hx hb d_MO_missing_79 rfl (lv_at hl 1 rfl) ?_
          refine lv_iload hx hb d_MO_missing_80 (lv_at hl 3 rfl) ?_
          obtain ⟨cB82, hcB82, hoB82, hkB82⟩ := xw_recv (r := 15) (i := 0) hK hX (by decide) rfl rfl
          refine xc_f (rest := [.int (((10000 : Int32) * (x4 / (30 : Int32))) + ((100 : Int32) * (x4 - x4 / (30 : Int32) * (30 : Int32))))]) (x_invV (argsL := [.int v, .int x4]) hx hb hown (hts _ w_750) (hts _ w_752) (hts _ w_30) (x_code (hts _ w_753)) ⟨by decide, by decide⟩ hcB82 hoB82 hkB82 rfl rfl rfl d_MO_missing_82) (c_MO_missingOf h0 σ v x4 hok.2.1 hv hkx) (xs_cw h0 hW0 m_753) (hts _ w_38) ⟨rfl, rfl, Nat.le_of_ble_eq_true rfl, Nat.le_of_ble_eq_true rfl⟩ (hl.1.trans hml.symm) (by rw [hb]; exact d_MO_missing_82) (Nat.le_of_ble_eq_true rfl) ⟨Nat.le_of_ble_eq_true rfl, Nat.le_of_ble_eq_true rfl⟩ hX ⟨hW0, xo_S hS⟩ ?_
          refine lv_iadd hx hb d_MO_missing_85 ?_
          subst hR
          refine W.widen (k := 0) (n := 0) (by decide) (by decide) ?_; exact xs_i hx hb hr hlocks hX hS d_MO_missing_86
set_option maxHeartbeats 4000000 in
set_option maxRecDepth 100000 in
theorem c_MO_missing {l : Launch} {s0 : State} {A0 : Array Value} {D : va_G} {dA : Nat → ClassId} (h0 : XS0 l s0 A0 D dA) (σ : XS) (v : Int32) (q : Int32) (hok : MOk σ) : XMet l y_MO_missing [cw_MO_missing] rm_MO_missing (XP D dA s0 σ [.ref (xB s0 + XA 15 0), .int v, .int q]) (XQs D dA s0 xv_i (.inl (S_MO_missing σ v q))) 0 0 (xAm s0) := by
  refine XMet.ofW (cc := b_MO_missing) (maxL := 5) (ret := (some .int)) (by decide) rfl ?_
  intro p e s m args below meth c s₁ Bd hml hvA
  obtain ⟨rfl, hX, hO⟩ := hvA
  have hx := Bd.exec
  have hb := Bd.bytes
  have hr := Bd.returns
  have hown : s.vm.findClass "LoadChecksModel" = some m.cls := findClass_of_methodNamed Bd.named
  have hlocks := Bd.notSynchronized
  have hnt : c.exceptionTable.isEmpty = true := Bd.noHandlers (atoms_spec (ws := [cw_MO_missing]) Bd.pre _ List.mem_cons_self)
  have hW0 := hO.1
  have hts := xs_w (args := ([.ref (xB s0 + XA 15 0), .int v, .int q] : List Value).toArray) h0 hW0
  have hK := xs_K h0 hW0
  have hS := xo_S0 hO
  have hl := lv_entry ([.ref (xB s0 + XA 15 0), .int v, .int q]) (n := 5) (Nat.le_of_ble_eq_true rfl)
  rw [lg_entry_eq]
  generalize (lg_sl ([.ref (xB s0 + XA 15 0), .int v, .int q]) ++ List.replicate (5 - (lg_sl ([.ref (xB s0 + XA 15 0), .int v, .int q])).length) Slot.unset).toArray = ls at hl ⊢
  have hl : lv_has ls 5 [(0, .ref (xB s0 + XA 15 0)), (1, .int v), (2, .int q)] := hl
  generalize hR : S_MO_missing σ v q = res
  unfold S_MO_missing at hR
  refine lv_aload_n hx hb d_MO_missing_0 rfl (lv_at hl 0 rfl) ?_
  refine lv_aload_n hx hb d_MO_missing_1 rfl (lv_at hl 0 rfl) ?_
  refine lv_iload_n hx hb d_MO_missing_2 rfl (lv_at hl 1 rfl) ?_
  obtain ⟨cB3, hcB3, hoB3, hkB3⟩ := xw_recv (r := 15) (i := 0) hK hX (by decide) rfl rfl
  refine xc_f (rest := [.ref (xB s0 + XA 15 0)]) (x_invV (argsL := [.int v]) hx hb hown (hts _ w_679) (hts _ w_681) (hts _ w_21) (x_code (hts _ w_682)) ⟨by decide, by decide⟩ hcB3 hoB3 hkB3 rfl rfl rfl d_MO_missing_3) (c_MO_isVehicle h0 σ v) (xs_cw h0 hW0 m_682) (hts _ w_38) ⟨rfl, rfl, Nat.le_of_ble_eq_true rfl, Nat.le_of_ble_eq_true rfl⟩ (hl.1.trans hml.symm) (by rw [hb]; exact d_MO_missing_3) (Nat.le_of_ble_eq_true rfl) ⟨Nat.le_of_ble_eq_true rfl, Nat.le_of_ble_eq_true rfl⟩ hX ⟨hW0, xo_S hS⟩ ?_
  refine lv_if_ne (tgt := 13) hx hb d_MO_missing_6 (by decide) (fun c6 => ?_) (fun c6 => ?_)
  · rw [if_neg c6] at hR
    have hv := m_veh hok c6
    refine lv_iconst (v := 0) hx hb d_MO_missing_13 (by decide) ?_
    refine lv_iload_n hx hb d_MO_missing_14 rfl (lv_at hl 2 rfl) ?_
    refine lv_if_ge (tgt := 22) hx hb d_MO_missing_15 (by decide) (fun c15 => ?_) (fun c15 => ?_)
    · rw [if_pos c15] at hR
      refine lv_iconst (v := 0) hx hb d_MO_missing_22 (by decide) ?_
      refine lv_iconst (v := 0) hx hb d_MO_missing_23 (by decide) ?_
      refine lv_iconst (v := 0) hx hb d_MO_missing_24 (by decide) ?_
      obtain ⟨cB25, hcB25, hoB25, hkB25⟩ := xw_recv (r := 15) (i := 0) hK hX (by decide) rfl rfl
      refine xc_s (rest := []) (x_invV (argsL := [.int (0 : Int32), .int (0 : Int32), .int (0 : Int32), .int (0 : Int32)]) hx hb hown (hts _ w_671) (hts _ w_673) (hts _ w_20) (x_code (hts _ w_674)) ⟨by decide, by decide⟩ hcB25 hoB25 hkB25 rfl rfl rfl d_MO_missing_25) (c_MO_throwing h0 σ (0 : Int32) (0 : Int32) (0 : Int32) (0 : Int32)) (xs_cw h0 hW0 m_674) (hts _ w_38) ⟨rfl, rfl, Nat.le_of_ble_eq_true rfl, Nat.le_of_ble_eq_true rfl⟩ (hl.1.trans hml.symm) (by rw [hb]; exact d_MO_missing_25) (Nat.le_of_ble_eq_true rfl) ⟨Nat.le_of_ble_eq_true rfl, Nat.le_of_ble_eq_true rfl⟩ hX hW0 hS (fun v25 σ25 H locs hM25 hX hS => ?_) (fun E x H1 locs1 hM => by cases hM)
      obtain ⟨ev25, es25⟩ := x_inl hM25
      subst es25
      subst ev25
      refine lv_if_eq (tgt := 33) hx hb d_MO_missing_28 (by decide) (fun c28 => ?_) (fun c28 => ?_)
      · refine lv_iload_n hx hb d_MO_missing_33 rfl (lv_at hl 2 rfl) ?_
        refine lv_istore_n (lv' := [(3, .int q), (0, .ref (xB s0 + XA 15 0)), (1, .int v), (2, .int q)]) hx hb d_MO_missing_34 rfl hl (by decide) rfl (fun ls hl => ?_)
        refine lv_iconst (v := 0) hx hb d_MO_missing_35 (by decide) ?_
        refine lv_istore (lv' := [(4, .int (0 : Int32)), (3, .int q), (0, .ref (xB s0 + XA 15 0)), (1, .int v), (2, .int q)]) hx hb d_MO_missing_36 hl (by decide) rfl (fun ls hl => ?_)
        exact l_MO_missing h0 hx hb hr hml hown hlocks hnt hO 241 ((S_MO_throwing σ (0 : Int32) (0 : Int32) (0 : Int32) (0 : Int32)).2) v q (0 : Int32) 0 nI_0.symm rfl (by decide)  hok hv hX hS ls (lv_sub hl [2, 3, 1, 0] rfl) res hR
      · exact absurd thr_z c28
    · rw [if_neg c15] at hR
      refine lv_iconst (v := 1) hx hb d_MO_missing_18 (by decide) ?_
      refine lv_goto (tgt := 23) hx hb d_MO_missing_19 (by decide) ?_
      refine lv_iconst (v := 0) hx hb d_MO_missing_23 (by decide) ?_
      refine lv_iconst (v := 0) hx hb d_MO_missing_24 (by decide) ?_
      obtain ⟨cB25, hcB25, hoB25, hkB25⟩ := xw_recv (r := 15) (i := 0) hK hX (by decide) rfl rfl
      refine xc_s (rest := []) (x_invV (argsL := [.int (0 : Int32), .int (1 : Int32), .int (0 : Int32), .int (0 : Int32)]) hx hb hown (hts _ w_671) (hts _ w_673) (hts _ w_20) (x_code (hts _ w_674)) ⟨by decide, by decide⟩ hcB25 hoB25 hkB25 rfl rfl rfl d_MO_missing_25) (c_MO_throwing h0 σ (0 : Int32) (1 : Int32) (0 : Int32) (0 : Int32)) (xs_cw h0 hW0 m_674) (hts _ w_38) ⟨rfl, rfl, Nat.le_of_ble_eq_true rfl, Nat.le_of_ble_eq_true rfl⟩ (hl.1.trans hml.symm) (by rw [hb]; exact d_MO_missing_25) (Nat.le_of_ble_eq_true rfl) ⟨Nat.le_of_ble_eq_true rfl, Nat.le_of_ble_eq_true rfl⟩ hX hW0 hS (fun v25 σ25 H locs hM25 hX hS => ?_) (fun E x H1 locs1 hM => by cases hM)
      obtain ⟨ev25, es25⟩ := x_inl hM25
      subst es25
      subst ev25
      refine lv_if_eq (tgt := 33) hx hb d_MO_missing_28 (by decide) (fun c28 => ?_) (fun c28 => ?_)
      · exact absurd c28 (thr_n2 (by decide))
      · refine lv_iconst (v := 0) hx hb d_MO_missing_31 (by decide) ?_
        subst hR
        refine W.widen (k := 0) (n := 0) (by decide) (by decide) ?_; exact xs_i hx hb hr hlocks hX hS d_MO_missing_32
  · rw [if_pos c6] at hR
    refine lv_iconst (v := 1) hx hb d_MO_missing_9 (by decide) ?_
    refine lv_goto (tgt := 14) hx hb d_MO_missing_10 (by decide) ?_
    refine lv_iload_n hx hb d_MO_missing_14 rfl (lv_at hl 2 rfl) ?_
    refine lv_if_ge (tgt := 22) hx hb d_MO_missing_15 (by decide) (fun c15 => ?_) (fun c15 => ?_)
    · rw [if_pos c15] at hR
      refine lv_iconst (v := 0) hx hb d_MO_missing_22 (by decide) ?_
      refine lv_iconst (v := 0) hx hb d_MO_missing_23 (by decide) ?_
      refine lv_iconst (v := 0) hx hb d_MO_missing_24 (by decide) ?_
      obtain ⟨cB25, hcB25, hoB25, hkB25⟩ := xw_recv (r := 15) (i := 0) hK hX (by decide) rfl rfl
      refine xc_s (rest := []) (x_invV (argsL := [.int (1 : Int32), .int (0 : Int32), .int (0 : Int32), .int (0 : Int32)]) hx hb hown (hts _ w_671) (hts _ w_673) (hts _ w_20) (x_code (hts _ w_674)) ⟨by decide, by decide⟩ hcB25 hoB25 hkB25 rfl rfl rfl d_MO_missing_25) (c_MO_throwing h0 σ (1 : Int32) (0 : Int32) (0 : Int32) (0 : Int32)) (xs_cw h0 hW0 m_674) (hts _ w_38) ⟨rfl, rfl, Nat.le_of_ble_eq_true rfl, Nat.le_of_ble_eq_true rfl⟩ (hl.1.trans hml.symm) (by rw [hb]; exact d_MO_missing_25) (Nat.le_of_ble_eq_true rfl) ⟨Nat.le_of_ble_eq_true rfl, Nat.le_of_ble_eq_true rfl⟩ hX hW0 hS (fun v25 σ25 H locs hM25 hX hS => ?_) (fun E x H1 locs1 hM => by cases hM)
      obtain ⟨ev25, es25⟩ := x_inl hM25
      subst es25
      subst ev25
      refine lv_if_eq (tgt := 33) hx hb d_MO_missing_28 (by decide) (fun c28 => ?_) (fun c28 => ?_)
      · exact absurd c28 (thr_n1 (by decide))
      · refine lv_iconst (v := 0) hx hb d_MO_missing_31 (by decide) ?_
        subst hR
        refine W.widen (k := 0) (n := 0) (by decide) (by decide) ?_; exact xs_i hx hb hr hlocks hX hS d_MO_missing_32
    · rw [if_neg c15] at hR
      refine lv_iconst (v := 1) hx hb d_MO_missing_18 (by decide) ?_
      refine lv_goto (tgt := 23) hx hb d_MO_missing_19 (by decide) ?_
      refine lv_iconst (v := 0) hx hb d_MO_missing_23 (by decide) ?_
      refine lv_iconst (v := 0) hx hb d_MO_missing_24 (by decide) ?_
      obtain ⟨cB25, hcB25, hoB25, hkB25⟩ := xw_recv (r := 15) (i := 0) hK hX (by decide) rfl rfl
      refine xc_s (rest := []) (x_invV (argsL := [.int (1 : Int32), .int (1 : Int32), .int (0 : Int32), .int (0 : Int32)]) hx hb hown (hts _ w_671) (hts _ w_673) (hts _ w_20) (x_code (hts _ w_674)) ⟨by decide, by decide⟩ hcB25 hoB25 hkB25 rfl rfl rfl d_MO_missing_25) (c_MO_throwing h0 σ (1 : Int32) (1 : Int32) (0 : Int32) (0 : Int32)) (xs_cw h0 hW0 m_674) (hts _ w_38) ⟨rfl, rfl, Nat.le_of_ble_eq_true rfl, Nat.le_of_ble_eq_true rfl⟩ (hl.1.trans hml.symm) (by rw [hb]; exact d_MO_missing_25) (Nat.le_of_ble_eq_true rfl) ⟨Nat.le_of_ble_eq_true rfl, Nat.le_of_ble_eq_true rfl⟩ hX hW0 hS (fun v25 σ25 H locs hM25 hX hS => ?_) (fun E x H1 locs1 hM => by cases hM)
      obtain ⟨ev25, es25⟩ := x_inl hM25
      subst es25
      subst ev25
      refine lv_if_eq (tgt := 33) hx hb d_MO_missing_28 (by decide) (fun c28 => ?_) (fun c28 => ?_)
      · exact absurd c28 (thr_n1 (by decide))
      · refine lv_iconst (v := 0) hx hb d_MO_missing_31 (by decide) ?_
        subst hR
        refine W.widen (k := 0) (n := 0) (by decide) (by decide) ?_; exact xs_i hx hb hr hlocks hX hS d_MO_missing_32

abbrev rm_MO_share : Room := { frames := 2, cells := 0, slots := 0, locals := 43 }
def L_MO_share : Nat → XS → Int32 → Int32 → Int32 → Int32 → Int32 → Int32 × XS
  | 0, _, _, _, _, _, _ => default
  | n + 1, σ, v, bd, al, hs, x5 => (if (240 : Int32) ≤ x5 then (if al = 0 then ((0 : Int32), (S_MO_throwing σ bd (1 : Int32) (0 : Int32) (0 : Int32)).2) else (if (S_MO_throwing σ bd (0 : Int32) (0 : Int32) (0 : Int32)).1 = 0 then ((((1000 : Int32) * hs) / al), (S_MO_throwing σ bd (0 : Int32) (0 : Int32) (0 : Int32)).2) else ((0 : Int32), (S_MO_throwing σ bd (0 : Int32) (0 : Int32) (0 : Int32)).2))) else (if bd = 0 then (L_MO_share n σ v bd (al + (σ.1 29 0 (((240 : Int32) * (σ.1 19 0 v.toNatClampNeg)) + x5).toNatClampNeg)) (hs + ((σ.1 29 0 (((240 : Int32) * (σ.1 19 0 v.toNatClampNeg)) + x5).toNatClampNeg) - (S_MO_missingOf σ v x5))) (x5 + 1)) else (if al = 0 then ((0 : Int32), (S_MO_throwing σ bd (1 : Int32) (0 : Int32) (0 : Int32)).2) else (if (S_MO_throwing σ bd (0 : Int32) (0 : Int32) (0 : Int32)).1 = 0 then ((((1000 : Int32) * hs) / al), (S_MO_throwing σ bd (0 : Int32) (0 : Int32) (0 : Int32)).2) else ((0 : Int32), (S_MO_throwing σ bd (0 : Int32) (0 : Int32) (0 : Int32)).2)))))
def S_MO_share (σ : XS) (v : Int32) : Int32 × XS := (if (S_MO_isVehicle σ v) = 0 then (L_MO_share 241 σ v (1 : Int32) (0 : Int32) (0 : Int32) (0 : Int32)) else (L_MO_share 241 σ v (0 : Int32) (0 : Int32) (0 : Int32) (0 : Int32)))
set_option maxHeartbeats 4000000 in
set_option maxRecDepth 100000 in
theorem l_MO_share {l : Launch} {s0 : State} {A0 : Array Value} {D : va_G} {dA : Nat → ClassId} (h0 : XS0 l s0 A0 D dA) {p : Program} {e : Env} {s : State} {m : MethodId} {args : Array Value} {below : List Frame} {meth : Method} {c : Code} (hx : p.tables.exec = Jvm.exec) (hb : c.code = b_MO_share) (hr : meth.sig.returnType = (some .int)) (hml : c.maxLocals = 6) (hown : s.vm.findClass "LoadChecksModel" = some m.cls) (hlocks : meth.locks = false) (hnt : c.exceptionTable.isEmpty = true) (hO : XO s0 s s.heap) :
    ∀ (n : Nat) (σ : XS) (v : Int32) (bd : Int32) (al : Int32) (hs : Int32) (x5 : Int32) (k : Nat), x5 = nI k → k + n = 241 → k < 241 → MOk σ → (bd = 0 → vp_in v 16) → ∀ {H : Heap} {locs : List Loc}, XWs D dA s0 σ H → va_S (xAm s0) s0.heap H locs → ∀ (ls : Array Slot), lv_has ls 6 [(0, .ref (xB s0 + XA 15 0)), (1, .int v), (2, .int bd), (3, .int al), (4, .int hs), (5, .int x5)] → ∀ res, L_MO_share n σ v bd al hs x5 = res →
    W p l e rm_MO_share s m args below meth c H locs 0 0 (XMQ below (XQs D dA s0 xv_i (.inl res)) args s 0 0 (xAm s0)) (F0 m 22 ls []) := by
  have hW0 := hO.1
  have hts := xs_w (args := args) h0 hW0
  have hK := xs_K h0 hW0
  intro n
  induction n with
  | zero =>
    intro σ v bd al hs x5 k e1 h2 h3
    exact absurd h2 (by omega)
  | succ n ih =>
    intro σ v bd al hs x5 k e_x5 hkn hkF hok hv H locs hX hS ls hl res hR
    rw [L_MO_share] at hR
    refine lv_iload hx hb d_MO_share_22 (lv_at hl 5 rfl) ?_
    refine lv_sipush (v := 240) hx hb d_MO_share_24 (by decide) ?_
    refine lv_icmp_ge (tgt := 92) hx hb d_MO_share_27 (by decide) (fun c27 => ?_) (fun c27 => ?_)
    · rw [if_pos c27] at hR
      refine lv_aload_n hx hb d_MO_share_92 rfl (lv_at hl 0 rfl) ?_
      refine lv_iload_n hx hb d_MO_share_93 rfl (lv_at hl 2 rfl) ?_
      refine lv_iload_n hx hb d_MO_share_94 rfl (lv_at hl 3 rfl) ?_
      refine lv_if_ne (tgt := 102) hx hb d_MO_share_95 (by decide) (fun c95 => ?_) (fun c95 => ?_)
      · rw [if_neg c95] at hR
        refine lv_iconst (v := 0) hx hb d_MO_share_102 (by decide) ?_
        refine lv_iconst (v := 0) hx hb d_MO_share_103 (by decide) ?_
        refine lv_iconst (v := 0) hx hb d_MO_share_104 (by decide) ?_
        obtain ⟨cB105, hcB105, hoB105, hkB105⟩ := xw_recv (r := 15) (i := 0) hK hX (by decide) rfl rfl
        refine xc_s (rest := []) (x_invV (argsL := [.int bd, .int (0 : Int32), .int (0 : Int32), .int (0 : Int32)]) hx hb hown (hts _ w_671) (hts _ w_673) (hts _ w_20) (x_code (hts _ w_674)) ⟨by decide, by decide⟩ hcB105 hoB105 hkB105 rfl rfl rfl d_MO_share_105) (c_MO_throwing h0 σ bd (0 : Int32) (0 : Int32) (0 : Int32)) (xs_cw h0 hW0 m_674) (hts _ w_38) ⟨rfl, rfl, Nat.le_of_ble_eq_true rfl, Nat.le_of_ble_eq_true rfl⟩ (hl.1.trans hml.symm) (by rw [hb]; exact d_MO_share_105) (Nat.le_of_ble_eq_true rfl) ⟨Nat.le_of_ble_eq_true rfl, Nat.le_of_ble_eq_true rfl⟩ hX hW0 hS (fun v105 σ105 H locs hM105 hX hS => ?_) (fun E x H1 locs1 hM => by cases hM)
        obtain ⟨ev105, es105⟩ := x_inl hM105
        subst es105
        subst ev105
        refine lv_if_eq (tgt := 113) hx hb d_MO_share_108 (by decide) (fun c108 => ?_) (fun c108 => ?_)
        · rw [if_pos c108] at hR
          refine lv_sipush (v := 1000) hx hb d_MO_share_113 (by decide) ?_
          refine lv_iload hx hb d_MO_share_116 (lv_at hl 4 rfl) ?_
          refine lv_imul hx hb d_MO_share_118 ?_
          refine lv_iload_n hx hb d_MO_share_119 rfl (lv_at hl 3 rfl) ?_
          refine lv_idiv hx hb d_MO_share_120 c95 ?_
          subst hR
          refine W.widen (k := 0) (n := 0) (by decide) (by decide) ?_; exact xs_i hx hb hr hlocks hX hS d_MO_share_121
        · rw [if_neg c108] at hR
          refine lv_iconst (v := 0) hx hb d_MO_share_111 (by decide) ?_
          subst hR
          refine W.widen (k := 0) (n := 0) (by decide) (by decide) ?_; exact xs_i hx hb hr hlocks hX hS d_MO_share_112
      · rw [if_pos c95] at hR
        refine lv_iconst (v := 1) hx hb d_MO_share_98 (by decide) ?_
        refine lv_goto (tgt := 103) hx hb d_MO_share_99 (by decide) ?_
        refine lv_iconst (v := 0) hx hb d_MO_share_103 (by decide) ?_
        refine lv_iconst (v := 0) hx hb d_MO_share_104 (by decide) ?_
        obtain ⟨cB105, hcB105, hoB105, hkB105⟩ := xw_recv (r := 15) (i := 0) hK hX (by decide) rfl rfl
        refine xc_s (rest := []) (x_invV (argsL := [.int bd, .int (1 : Int32), .int (0 : Int32), .int (0 : Int32)]) hx hb hown (hts _ w_671) (hts _ w_673) (hts _ w_20) (x_code (hts _ w_674)) ⟨by decide, by decide⟩ hcB105 hoB105 hkB105 rfl rfl rfl d_MO_share_105) (c_MO_throwing h0 σ bd (1 : Int32) (0 : Int32) (0 : Int32)) (xs_cw h0 hW0 m_674) (hts _ w_38) ⟨rfl, rfl, Nat.le_of_ble_eq_true rfl, Nat.le_of_ble_eq_true rfl⟩ (hl.1.trans hml.symm) (by rw [hb]; exact d_MO_share_105) (Nat.le_of_ble_eq_true rfl) ⟨Nat.le_of_ble_eq_true rfl, Nat.le_of_ble_eq_true rfl⟩ hX hW0 hS (fun v105 σ105 H locs hM105 hX hS => ?_) (fun E x H1 locs1 hM => by cases hM)
        obtain ⟨ev105, es105⟩ := x_inl hM105
        subst es105
        subst ev105
        refine lv_if_eq (tgt := 113) hx hb d_MO_share_108 (by decide) (fun c108 => ?_) (fun c108 => ?_)
        · exact absurd c108 (thr_n2 (by decide))
        · refine lv_iconst (v := 0) hx hb d_MO_share_111 (by decide) ?_
          subst hR
          refine W.widen (k := 0) (n := 0) (by decide) (by decide) ?_; exact xs_i hx hb hr hlocks hX hS d_MO_share_112
    · rw [if_neg c27] at hR
      have hq : k < 240 := x_klt (b := 240) rfl (by decide) (by omega) e_x5 c27
      have hkx : vp_in x5 240 := o_nI e_x5 hq (by decide)
      refine lv_iload_n hx hb d_MO_share_30 rfl (lv_at hl 2 rfl) ?_
      refine lv_if_ne (tgt := 92) hx hb d_MO_share_31 (by decide) (fun c31 => ?_) (fun c31 => ?_)
      · rw [if_neg c31] at hR
        refine lv_aload_n hx hb d_MO_share_92 rfl (lv_at hl 0 rfl) ?_
        refine lv_iload_n hx hb d_MO_share_93 rfl (lv_at hl 2 rfl) ?_
        refine lv_iload_n hx hb d_MO_share_94 rfl (lv_at hl 3 rfl) ?_
        refine lv_if_ne (tgt := 102) hx hb d_MO_share_95 (by decide) (fun c95 => ?_) (fun c95 => ?_)
        · rw [if_neg c95] at hR
          refine lv_iconst (v := 0) hx hb d_MO_share_102 (by decide) ?_
          refine lv_iconst (v := 0) hx hb d_MO_share_103 (by decide) ?_
          refine lv_iconst (v := 0) hx hb d_MO_share_104 (by decide) ?_
          obtain ⟨cB105, hcB105, hoB105, hkB105⟩ := xw_recv (r := 15) (i := 0) hK hX (by decide) rfl rfl
          refine xc_s (rest := []) (x_invV (argsL := [.int bd, .int (0 : Int32), .int (0 : Int32), .int (0 : Int32)]) hx hb hown (hts _ w_671) (hts _ w_673) (hts _ w_20) (x_code (hts _ w_674)) ⟨by decide, by decide⟩ hcB105 hoB105 hkB105 rfl rfl rfl d_MO_share_105) (c_MO_throwing h0 σ bd (0 : Int32) (0 : Int32) (0 : Int32)) (xs_cw h0 hW0 m_674) (hts _ w_38) ⟨rfl, rfl, Nat.le_of_ble_eq_true rfl, Nat.le_of_ble_eq_true rfl⟩ (hl.1.trans hml.symm) (by rw [hb]; exact d_MO_share_105) (Nat.le_of_ble_eq_true rfl) ⟨Nat.le_of_ble_eq_true rfl, Nat.le_of_ble_eq_true rfl⟩ hX hW0 hS (fun v105 σ105 H locs hM105 hX hS => ?_) (fun E x H1 locs1 hM => by cases hM)
          obtain ⟨ev105, es105⟩ := x_inl hM105
          subst es105
          subst ev105
          refine lv_if_eq (tgt := 113) hx hb d_MO_share_108 (by decide) (fun c108 => ?_) (fun c108 => ?_)
          · rw [if_pos c108] at hR
            refine lv_sipush (v := 1000) hx hb d_MO_share_113 (by decide) ?_
            refine lv_iload hx hb d_MO_share_116 (lv_at hl 4 rfl) ?_
            refine lv_imul hx hb d_MO_share_118 ?_
            refine lv_iload_n hx hb d_MO_share_119 rfl (lv_at hl 3 rfl) ?_
            refine lv_idiv hx hb d_MO_share_120 c95 ?_
            subst hR
            refine W.widen (k := 0) (n := 0) (by decide) (by decide) ?_; exact xs_i hx hb hr hlocks hX hS d_MO_share_121
          · rw [if_neg c108] at hR
            refine lv_iconst (v := 0) hx hb d_MO_share_111 (by decide) ?_
            subst hR
            refine W.widen (k := 0) (n := 0) (by decide) (by decide) ?_; exact xs_i hx hb hr hlocks hX hS d_MO_share_112
        · rw [if_pos c95] at hR
          refine lv_iconst (v := 1) hx hb d_MO_share_98 (by decide) ?_
          refine lv_goto (tgt := 103) hx hb d_MO_share_99 (by decide) ?_
          refine lv_iconst (v := 0) hx hb d_MO_share_103 (by decide) ?_
          refine lv_iconst (v := 0) hx hb d_MO_share_104 (by decide) ?_
          obtain ⟨cB105, hcB105, hoB105, hkB105⟩ := xw_recv (r := 15) (i := 0) hK hX (by decide) rfl rfl
          refine xc_s (rest := []) (x_invV (argsL := [.int bd, .int (1 : Int32), .int (0 : Int32), .int (0 : Int32)]) hx hb hown (hts _ w_671) (hts _ w_673) (hts _ w_20) (x_code (hts _ w_674)) ⟨by decide, by decide⟩ hcB105 hoB105 hkB105 rfl rfl rfl d_MO_share_105) (c_MO_throwing h0 σ bd (1 : Int32) (0 : Int32) (0 : Int32)) (xs_cw h0 hW0 m_674) (hts _ w_38) ⟨rfl, rfl, Nat.le_of_ble_eq_true rfl, Nat.le_of_ble_eq_true rfl⟩ (hl.1.trans hml.symm) (by rw [hb]; exact d_MO_share_105) (Nat.le_of_ble_eq_true rfl) ⟨Nat.le_of_ble_eq_true rfl, Nat.le_of_ble_eq_true rfl⟩ hX hW0 hS (fun v105 σ105 H locs hM105 hX hS => ?_) (fun E x H1 locs1 hM => by cases hM)
          obtain ⟨ev105, es105⟩ := x_inl hM105
          subst es105
          subst ev105
          refine lv_if_eq (tgt := 113) hx hb d_MO_share_108 (by decide) (fun c108 => ?_) (fun c108 => ?_)
          · exact absurd c108 (thr_n2 (by decide))
          · refine lv_iconst (v := 0) hx hb d_MO_share_111 (by decide) ?_
            subst hR
            refine W.widen (k := 0) (n := 0) (by decide) (by decide) ?_; exact xs_i hx hb hr hlocks hX hS d_MO_share_112
      · rw [if_pos c31] at hR
        have hvb := hv
        have hv := hvb c31
        refine lv_iload_n hx hb d_MO_share_34 rfl (lv_at hl 3 rfl) ?_
        refine lv_aload_n hx hb d_MO_share_35 rfl (lv_at hl 0 rfl) ?_
        refine xw_get (C := R_MO) (T := F_MO) (N := 20) (r := 15) (i := 0) hx hb hts hi_MO hown hK hX (by decide) rfl rfl 17 (by decide) (hts _ w_612) rfl rfl d_MO_share_36 ?_
        refine lv_sipush (v := 240) hx hb d_MO_share_39 (by decide) ?_
        refine lv_aload_n hx hb d_MO_share_42 rfl (lv_at hl 0 rfl) ?_
        refine xw_get (C := R_MO) (T := F_MO) (N := 20) (r := 15) (i := 0) hx hb hts hi_MO hown hK hX (by decide) rfl rfl 7 (by decide) (hts _ w_602) rfl rfl d_MO_share_43 ?_
        refine lv_iload_n hx hb d_MO_share_46 rfl (lv_at hl 1 rfl) ?_
        refine xw_iald (r := 19) (i := 0) hx hb hK hX (by decide) 0 rfl rfl (j := v) hv d_MO_share_47 ?_
        refine lv_imul hx hb d_MO_share_48 ?_
        refine lv_iload hx hb d_MO_share_49 (lv_at hl 5 rfl) ?_
        refine lv_iadd hx hb d_MO_share_51 ?_
        refine xw_iald (r := 29) (i := 0) hx hb hK hX (by decide) 0 rfl rfl (j := (((240 : Int32) * (σ.1 19 0 v.toNatClampNeg)) + x5)) (o_n2 (o_kind hok.2.1 hv) hkx) d_MO_share_52 ?_
        refine lv_iadd hx hb d_MO_share_53 ?_
        refine lv_istore_n (lv' := [(3, .int (al + (σ.1 29 0 (((240 : Int32) * (σ.1 19 0 v.toNatClampNeg)) + x5).toNatClampNeg))), (0, .ref (xB s0 + XA 15 0)), (1, .int v), (2, .int bd), (4, .int hs), (5, .int x5)]) hx hb d_MO_share_54 rfl hl (by decide) rfl (fun ls hl => ?_)
        refine lv_iload hx hb d_MO_share_55 (lv_at hl 4 rfl) ?_
        refine lv_aload_n hx hb d_MO_share_57 rfl (lv_at hl 1 rfl) ?_
        refine xw_get (C := R_MO) (T := F_MO) (N := 20) (r := 15) (i := 0) hx hb hts hi_MO hown hK hX (by decide) rfl rfl 17 (by decide) (hts _ w_612) rfl rfl d_MO_share_58 ?_
        refine lv_sipush (v := 240) hx hb d_MO_share_61 (by decide) ?_
        refine lv_aload_n hx hb d_MO_share_64 rfl (lv_at hl 1 rfl) ?_
        refine xw_get (C := R_MO) (T := F_MO) (N := 20) (r := 15) (i := 0) hx hb hts hi_MO hown hK hX (by decide) rfl rfl 7 (by decide) (hts _ w_602) rfl rfl d_MO_share_65 ?_
        refine lv_iload_n hx hb d_MO_share_68 rfl (lv_at hl 2 rfl) ?_
        refine xw_iald (r := 19) (i := 0) hx hb hK hX (by decide) 0 rfl rfl (j := v) hv d_MO_share_69 ?_
        refine lv_imul hx hb d_MO_share_70 ?_
        refine lv_iload hx hb d_MO_share_71 (lv_at hl 5 rfl) ?_
        refine lv_iadd hx hb d_MO_share_73 ?_
        refine xw_iald (r := 29) (i := 0) hx hb hK hX (by decide) 0 rfl rfl (j := (((240 : Int32) * (σ.1 19 0 v.toNatClampNeg)) + x5)) (o_n2 (o_kind hok.2.1 hv) hkx) d_MO_share_74 ?_
        refine lv_aload_n hx hb d_MO_share_75 rfl (lv_at hl 1 rfl) ?_
        refine lv_iload_n hx hb d_MO_share_76 rfl (lv_at hl 2 rfl) ?_
        refine lv_iload hx hb d_MO_share_77 (lv_at hl 5 rfl) ?_
        obtain ⟨cB79, hcB79, hoB79, hkB79⟩ := xw_recv (r := 15) (i := 0) hK hX (by decide) rfl rfl
        refine xc_f (rest := [.int (σ.1 29 0 (((240 : Int32) * (σ.1 19 0 v.toNatClampNeg)) + x5).toNatClampNeg), .int hs]) (x_invV (argsL := [.int v, .int x5]) hx hb hown (hts _ w_750) (hts _ w_752) (hts _ w_30) (x_code (hts _ w_753)) ⟨by decide, by decide⟩ hcB79 hoB79 hkB79 rfl rfl rfl d_MO_share_79) (c_MO_missingOf h0 σ v x5 hok.2.1 hv hkx) (xs_cw h0 hW0 m_753) (hts _ w_38) ⟨rfl, rfl, Nat.le_of_ble_eq_true rfl, Nat.le_of_ble_eq_true rfl⟩ (hl.1.trans hml.symm) (by rw [hb]; exact d_MO_share_79) (Nat.le_of_ble_eq_true rfl) ⟨Nat.le_of_ble_eq_true rfl, Nat.le_of_ble_eq_true rfl⟩ hX ⟨hW0, xo_S hS⟩ ?_
        refine lv_isub hx hb d_MO_share_82 ?_
        refine lv_iadd hx hb d_MO_share_83 ?_
        refine lv_istore (lv' := [(4, .int (hs + ((σ.1 29 0 (((240 : Int32) * (σ.1 19 0 v.toNatClampNeg)) + x5).toNatClampNeg) - (S_MO_missingOf σ v x5)))), (3, .int (al + (σ.1 29 0 (((240 : Int32) * (σ.1 19 0 v.toNatClampNeg)) + x5).toNatClampNeg))), (0, .ref (xB s0 + XA 15 0)), (1, .int v), (2, .int bd), (5, .int x5)]) hx hb d_MO_share_84 hl (by decide) rfl (fun ls hl => ?_)
        refine lv_iinc (v := (x5 + 1)) (lv' := [(5, .int (x5 + 1)), (4, .int (hs + ((σ.1 29 0 (((240 : Int32) * (σ.1 19 0 v.toNatClampNeg)) + x5).toNatClampNeg) - (S_MO_missingOf σ v x5)))), (3, .int (al + (σ.1 29 0 (((240 : Int32) * (σ.1 19 0 v.toNatClampNeg)) + x5).toNatClampNeg))), (0, .ref (xB s0 + XA 15 0)), (1, .int v), (2, .int bd)]) hx hb d_MO_share_86 hl (k := 5) rfl rfl (by decide) rfl (fun ls hl => ?_)
        refine lv_goto (tgt := 22) hx hb d_MO_share_89 (by decide) ?_
        exact ih σ v bd (al + (σ.1 29 0 (((240 : Int32) * (σ.1 19 0 v.toNatClampNeg)) + x5).toNatClampNeg)) (hs + ((σ.1 29 0 (((240 : Int32) * (σ.1 19 0 v.toNatClampNeg)) + x5).toNatClampNeg) - (S_MO_missingOf σ v x5))) (x5 + 1) (k + 1) (by rw [e_x5]; exact nI_1 k) (by omega) (by omega)  hok hvb hX hS ls (lv_sub hl [3, 4, 5, 2, 1, 0] rfl) res hR
set_option maxHeartbeats 4000000 in
set_option maxRecDepth 100000 in
theorem c_MO_share {l : Launch} {s0 : State} {A0 : Array Value} {D : va_G} {dA : Nat → ClassId} (h0 : XS0 l s0 A0 D dA) (σ : XS) (v : Int32) (hok : MOk σ) : XMet l y_MO_share [cw_MO_share] rm_MO_share (XP D dA s0 σ [.ref (xB s0 + XA 15 0), .int v]) (XQs D dA s0 xv_i (.inl (S_MO_share σ v))) 0 0 (xAm s0) := by
  refine XMet.ofW (cc := b_MO_share) (maxL := 6) (ret := (some .int)) (by decide) rfl ?_
  intro p e s m args below meth c s₁ Bd hml hvA
  obtain ⟨rfl, hX, hO⟩ := hvA
  have hx := Bd.exec
  have hb := Bd.bytes
  have hr := Bd.returns
  have hown : s.vm.findClass "LoadChecksModel" = some m.cls := findClass_of_methodNamed Bd.named
  have hlocks := Bd.notSynchronized
  have hnt : c.exceptionTable.isEmpty = true := Bd.noHandlers (atoms_spec (ws := [cw_MO_share]) Bd.pre _ List.mem_cons_self)
  have hW0 := hO.1
  have hts := xs_w (args := ([.ref (xB s0 + XA 15 0), .int v] : List Value).toArray) h0 hW0
  have hK := xs_K h0 hW0
  have hS := xo_S0 hO
  have hl := lv_entry ([.ref (xB s0 + XA 15 0), .int v]) (n := 6) (Nat.le_of_ble_eq_true rfl)
  rw [lg_entry_eq]
  generalize (lg_sl ([.ref (xB s0 + XA 15 0), .int v]) ++ List.replicate (6 - (lg_sl ([.ref (xB s0 + XA 15 0), .int v])).length) Slot.unset).toArray = ls at hl ⊢
  have hl : lv_has ls 6 [(0, .ref (xB s0 + XA 15 0)), (1, .int v)] := hl
  generalize hR : S_MO_share σ v = res
  unfold S_MO_share at hR
  refine lv_aload_n hx hb d_MO_share_0 rfl (lv_at hl 0 rfl) ?_
  refine lv_iload_n hx hb d_MO_share_1 rfl (lv_at hl 1 rfl) ?_
  obtain ⟨cB2, hcB2, hoB2, hkB2⟩ := xw_recv (r := 15) (i := 0) hK hX (by decide) rfl rfl
  refine xc_f (rest := []) (x_invV (argsL := [.int v]) hx hb hown (hts _ w_679) (hts _ w_681) (hts _ w_21) (x_code (hts _ w_682)) ⟨by decide, by decide⟩ hcB2 hoB2 hkB2 rfl rfl rfl d_MO_share_2) (c_MO_isVehicle h0 σ v) (xs_cw h0 hW0 m_682) (hts _ w_38) ⟨rfl, rfl, Nat.le_of_ble_eq_true rfl, Nat.le_of_ble_eq_true rfl⟩ (hl.1.trans hml.symm) (by rw [hb]; exact d_MO_share_2) (Nat.le_of_ble_eq_true rfl) ⟨Nat.le_of_ble_eq_true rfl, Nat.le_of_ble_eq_true rfl⟩ hX ⟨hW0, xo_S hS⟩ ?_
  refine lv_if_ne (tgt := 12) hx hb d_MO_share_5 (by decide) (fun c5 => ?_) (fun c5 => ?_)
  · rw [if_neg c5] at hR
    have hv : (0 : Int32) = 0 → vp_in v 16 := fun _ => m_veh hok c5
    refine lv_iconst (v := 0) hx hb d_MO_share_12 (by decide) ?_
    refine lv_istore_n (lv' := [(2, .int (0 : Int32)), (0, .ref (xB s0 + XA 15 0)), (1, .int v)]) hx hb d_MO_share_13 rfl hl (by decide) rfl (fun ls hl => ?_)
    refine lv_iconst (v := 0) hx hb d_MO_share_14 (by decide) ?_
    refine lv_istore_n (lv' := [(3, .int (0 : Int32)), (2, .int (0 : Int32)), (0, .ref (xB s0 + XA 15 0)), (1, .int v)]) hx hb d_MO_share_15 rfl hl (by decide) rfl (fun ls hl => ?_)
    refine lv_iconst (v := 0) hx hb d_MO_share_16 (by decide) ?_
    refine lv_istore (lv' := [(4, .int (0 : Int32)), (3, .int (0 : Int32)), (2, .int (0 : Int32)), (0, .ref (xB s0 + XA 15 0)), (1, .int v)]) hx hb d_MO_share_17 hl (by decide) rfl (fun ls hl => ?_)
    refine lv_iconst (v := 0) hx hb d_MO_share_19 (by decide) ?_
    refine lv_istore (lv' := [(5, .int (0 : Int32)), (4, .int (0 : Int32)), (3, .int (0 : Int32)), (2, .int (0 : Int32)), (0, .ref (xB s0 + XA 15 0)), (1, .int v)]) hx hb d_MO_share_20 hl (by decide) rfl (fun ls hl => ?_)
    exact l_MO_share h0 hx hb hr hml hown hlocks hnt hO 241 σ v (0 : Int32) (0 : Int32) (0 : Int32) (0 : Int32) 0 nI_0.symm rfl (by decide)  hok hv hX hS ls (lv_sub hl [4, 5, 3, 2, 1, 0] rfl) res hR
  · rw [if_pos c5] at hR
    have hv : (1 : Int32) = 0 → vp_in v 16 := fun q => absurd q (by decide)
    refine lv_iconst (v := 1) hx hb d_MO_share_8 (by decide) ?_
    refine lv_goto (tgt := 13) hx hb d_MO_share_9 (by decide) ?_
    refine lv_istore_n (lv' := [(2, .int (1 : Int32)), (0, .ref (xB s0 + XA 15 0)), (1, .int v)]) hx hb d_MO_share_13 rfl hl (by decide) rfl (fun ls hl => ?_)
    refine lv_iconst (v := 0) hx hb d_MO_share_14 (by decide) ?_
    refine lv_istore_n (lv' := [(3, .int (0 : Int32)), (2, .int (1 : Int32)), (0, .ref (xB s0 + XA 15 0)), (1, .int v)]) hx hb d_MO_share_15 rfl hl (by decide) rfl (fun ls hl => ?_)
    refine lv_iconst (v := 0) hx hb d_MO_share_16 (by decide) ?_
    refine lv_istore (lv' := [(4, .int (0 : Int32)), (3, .int (0 : Int32)), (2, .int (1 : Int32)), (0, .ref (xB s0 + XA 15 0)), (1, .int v)]) hx hb d_MO_share_17 hl (by decide) rfl (fun ls hl => ?_)
    refine lv_iconst (v := 0) hx hb d_MO_share_19 (by decide) ?_
    refine lv_istore (lv' := [(5, .int (0 : Int32)), (4, .int (0 : Int32)), (3, .int (0 : Int32)), (2, .int (1 : Int32)), (0, .ref (xB s0 + XA 15 0)), (1, .int v)]) hx hb d_MO_share_20 hl (by decide) rfl (fun ls hl => ?_)
    exact l_MO_share h0 hx hb hr hml hown hlocks hnt hO 241 σ v (1 : Int32) (0 : Int32) (0 : Int32) (0 : Int32) 0 nI_0.symm rfl (by decide)  hok hv hX hS ls (lv_sub hl [4, 5, 3, 2, 1, 0] rfl) res hR

abbrev rm_MO_axle : Room := { frames := 2, cells := 0, slots := 0, locals := 46 }
def L_MO_axle : Nat → XS → Int32 → Int32 → Int64 → Int64 → Int64 → Int64 × XS
  | 0, _, _, _, _, _, _ => default
  | n + 1, σ, v, q, up, a, b => (if (lg_cmp b (0 : Int64)) ≤ 0 then (if (q - q / (2 : Int32) * (2 : Int32)) = 0 then ((up / a), σ) else (((σ.1 20 0 v.toNatClampNeg).toInt64 / a), σ)) else (L_MO_axle n σ v q up b (a - a / b * b)))
def S_MO_axle (σ : XS) (v : Int32) (q : Int32) : Int64 × XS := (if (S_MO_isVehicle σ v) = 0 then ((0 : Int64), (S_MO_throwing σ (1 : Int32) (0 : Int32) (0 : Int32) (0 : Int32)).2) else (if (S_MO_in σ q (0 : Int32) (3 : Int32)) = 0 then ((0 : Int64), (S_MO_throwing σ (1 : Int32) (0 : Int32) (0 : Int32) (0 : Int32)).2) else (if q ≤ (1 : Int32) then (if 0 ≤ (lg_cmp (S_MO_bears ((S_MO_throwing σ (0 : Int32) (0 : Int32) (0 : Int32) (0 : Int32)).2) v (0 : Int32)) (0 : Int64)) then (L_MO_axle (((((S_MO_throwing σ (0 : Int32) (0 : Int32) (0 : Int32) (0 : Int32)).2).1 20 0 v.toNatClampNeg).toInt64).toInt.toNat + 1) ((S_MO_throwing σ (0 : Int32) (0 : Int32) (0 : Int32) (0 : Int32)).2) v q (S_MO_bears ((S_MO_throwing σ (0 : Int32) (0 : Int32) (0 : Int32) (0 : Int32)).2) v (0 : Int32)) (S_MO_bears ((S_MO_throwing σ (0 : Int32) (0 : Int32) (0 : Int32) (0 : Int32)).2) v (0 : Int32)) ((((S_MO_throwing σ (0 : Int32) (0 : Int32) (0 : Int32) (0 : Int32)).2).1 20 0 v.toNatClampNeg).toInt64)) else (L_MO_axle (((((S_MO_throwing σ (0 : Int32) (0 : Int32) (0 : Int32) (0 : Int32)).2).1 20 0 v.toNatClampNeg).toInt64).toInt.toNat + 1) ((S_MO_throwing σ (0 : Int32) (0 : Int32) (0 : Int32) (0 : Int32)).2) v q (S_MO_bears ((S_MO_throwing σ (0 : Int32) (0 : Int32) (0 : Int32) (0 : Int32)).2) v (0 : Int32)) (-(S_MO_bears ((S_MO_throwing σ (0 : Int32) (0 : Int32) (0 : Int32) (0 : Int32)).2) v (0 : Int32))) ((((S_MO_throwing σ (0 : Int32) (0 : Int32) (0 : Int32) (0 : Int32)).2).1 20 0 v.toNatClampNeg).toInt64))) else (if 0 ≤ (lg_cmp (S_MO_bears ((S_MO_throwing σ (0 : Int32) (0 : Int32) (0 : Int32) (0 : Int32)).2) v (1 : Int32)) (0 : Int64)) then (L_MO_axle (((((S_MO_throwing σ (0 : Int32) (0 : Int32) (0 : Int32) (0 : Int32)).2).1 20 0 v.toNatClampNeg).toInt64).toInt.toNat + 1) ((S_MO_throwing σ (0 : Int32) (0 : Int32) (0 : Int32) (0 : Int32)).2) v q (S_MO_bears ((S_MO_throwing σ (0 : Int32) (0 : Int32) (0 : Int32) (0 : Int32)).2) v (1 : Int32)) (S_MO_bears ((S_MO_throwing σ (0 : Int32) (0 : Int32) (0 : Int32) (0 : Int32)).2) v (1 : Int32)) ((((S_MO_throwing σ (0 : Int32) (0 : Int32) (0 : Int32) (0 : Int32)).2).1 20 0 v.toNatClampNeg).toInt64)) else (L_MO_axle (((((S_MO_throwing σ (0 : Int32) (0 : Int32) (0 : Int32) (0 : Int32)).2).1 20 0 v.toNatClampNeg).toInt64).toInt.toNat + 1) ((S_MO_throwing σ (0 : Int32) (0 : Int32) (0 : Int32) (0 : Int32)).2) v q (S_MO_bears ((S_MO_throwing σ (0 : Int32) (0 : Int32) (0 : Int32) (0 : Int32)).2) v (1 : Int32)) (-(S_MO_bears ((S_MO_throwing σ (0 : Int32) (0 : Int32) (0 : Int32) (0 : Int32)).2) v (1 : Int32))) ((((S_MO_throwing σ (0 : Int32) (0 : Int32) (0 : Int32) (0 : Int32)).2).1 20 0 v.toNatClampNeg).toInt64))))))
set_option maxHeartbeats 4000000 in
set_option maxRecDepth 100000 in
theorem l_MO_axle {l : Launch} {s0 : State} {A0 : Array Value} {D : va_G} {dA : Nat → ClassId} (h0 : XS0 l s0 A0 D dA) {p : Program} {e : Env} {s : State} {m : MethodId} {args : Array Value} {below : List Frame} {meth : Method} {c : Code} (hx : p.tables.exec = Jvm.exec) (hb : c.code = b_MO_axle) (hr : meth.sig.returnType = (some .long)) (hml : c.maxLocals = 11) (hown : s.vm.findClass "LoadChecksModel" = some m.cls) (hlocks : meth.locks = false) (hnt : c.exceptionTable.isEmpty = true) (hO : XO s0 s s.heap) :
    ∀ (n : Nat) (σ : XS) (v : Int32) (q : Int32) (up : Int64) (a : Int64) (b : Int64), b.toInt.toNat < n → vp_in v 16 → (¬ a = 0 ∨ 0 < b.toInt) → ∀ {H : Heap} {locs : List Loc}, XWs D dA s0 σ H → va_S (xAm s0) s0.heap H locs → ∀ (ls : Array Slot), lv_has ls 11 [(0, .ref (xB s0 + XA 15 0)), (1, .int v), (2, .int q), (3, .long up), (5, .long a), (7, .long b)] → ∀ res, L_MO_axle n σ v q up a b = res →
    W p l e rm_MO_axle s m args below meth c H locs 0 0 (XMQ below (XQs D dA s0 xv_l (.inl res)) args s 0 0 (xAm s0)) (F0 m 73 ls []) := by
  have hW0 := hO.1
  have hts := xs_w (args := args) h0 hW0
  have hK := xs_K h0 hW0
  intro n
  induction n with
  | zero =>
    intro σ v q up a b h2
    exact absurd h2 (Nat.not_lt_zero _)
  | succ n ih =>
    intro σ v q up a b hms hv hab H locs hX hS ls hl res hR
    rw [L_MO_axle] at hR
    refine lv_lload hx hb d_MO_axle_73 (lv_at hl 5 rfl) ?_
    refine lv_lconst (v := 0) hx hb d_MO_axle_75 (by decide) ?_
    refine W.lcmp hx hb d_MO_axle_76 ?_
    refine lv_if_le (tgt := 98) hx hb d_MO_axle_77 (by decide) (fun c77 => ?_) (fun c77 => ?_)
    · rw [if_pos c77] at hR
      refine lv_iload_n hx hb d_MO_axle_98 rfl (lv_at hl 2 rfl) ?_
      refine lv_iconst (v := 2) hx hb d_MO_axle_99 (by decide) ?_
      refine lv_irem hx hb d_MO_axle_100 (by decide) ?_
      refine lv_if_ne (tgt := 111) hx hb d_MO_axle_101 (by decide) (fun c101 => ?_) (fun c101 => ?_)
      · rw [if_neg c101] at hR
        refine lv_aload_n hx hb d_MO_axle_111 rfl (lv_at hl 0 rfl) ?_
        refine xw_get (C := R_MO) (T := F_MO) (N := 20) (r := 15) (i := 0) hx hb hts hi_MO hown hK hX (by decide) rfl rfl 8 (by decide) (hts _ w_603) rfl rfl d_MO_axle_112 ?_
        refine lv_iload_n hx hb d_MO_axle_115 rfl (lv_at hl 1 rfl) ?_
        refine xw_iald (r := 20) (i := 0) hx hb hK hX (by decide) 0 rfl rfl (j := v) hv d_MO_axle_116 ?_
        refine lv_i2l hx hb d_MO_axle_117 rfl ?_
        refine lv_lload hx hb d_MO_axle_118 (lv_at hl 4 rfl) ?_
        refine lv_ldiv hx hb d_MO_axle_120 (o_axa hab c77) ?_
        subst hR
        refine W.widen (k := 0) (n := 0) (by decide) (by decide) ?_; exact xs_l hx hb hr hlocks hX hS d_MO_axle_121
      · rw [if_pos c101] at hR
        refine lv_lload_n hx hb d_MO_axle_104 rfl (lv_at hl 3 rfl) ?_
        refine lv_lload hx hb d_MO_axle_105 (lv_at hl 4 rfl) ?_
        refine lv_ldiv hx hb d_MO_axle_107 (o_axa hab c77) ?_
        refine lv_goto (tgt := 121) hx hb d_MO_axle_108 (by decide) ?_
        subst hR
        refine W.widen (k := 0) (n := 0) (by decide) (by decide) ?_; exact xs_l hx hb hr hlocks hX hS d_MO_axle_121
    · rw [if_neg c77] at hR
      refine lv_lload hx hb d_MO_axle_80 (lv_at hl 4 rfl) ?_
      refine lv_lload hx hb d_MO_axle_82 (lv_at hl 5 rfl) ?_
      refine lv_lrem hx hb d_MO_axle_84 (o_axb c77) ?_
      refine lv_lstore (lv' := [(9, .long (a - a / b * b)), (0, .ref (xB s0 + XA 15 0)), (1, .int v), (2, .int q), (3, .long up), (5, .long a), (7, .long b)]) hx hb d_MO_axle_85 hl (by decide) rfl (fun ls hl => ?_)
      refine lv_lload hx hb d_MO_axle_87 (lv_at hl 6 rfl) ?_
      refine lv_lstore (lv' := [(5, .long b), (9, .long (a - a / b * b)), (0, .ref (xB s0 + XA 15 0)), (1, .int v), (2, .int q), (3, .long up), (7, .long b)]) hx hb d_MO_axle_89 hl (by decide) rfl (fun ls hl => ?_)
      refine lv_lload hx hb d_MO_axle_91 (lv_at hl 1 rfl) ?_
      refine lv_lstore (lv' := [(7, .long (a - a / b * b)), (5, .long b), (9, .long (a - a / b * b)), (0, .ref (xB s0 + XA 15 0)), (1, .int v), (2, .int q), (3, .long up)]) hx hb d_MO_axle_93 hl (by decide) rfl (fun ls hl => ?_)
      refine lv_goto (tgt := 73) hx hb d_MO_axle_95 (by decide) ?_
      exact ih σ v q up b (a - a / b * b) (o_axm hms c77)  hv (Or.inl (o_axb c77)) hX hS ls (lv_sub hl [3, 4, 5, 6, 1, 0] rfl) res hR
set_option maxHeartbeats 4000000 in
set_option maxRecDepth 100000 in
theorem c_MO_axle {l : Launch} {s0 : State} {A0 : Array Value} {D : va_G} {dA : Nat → ClassId} (h0 : XS0 l s0 A0 D dA) (σ : XS) (v : Int32) (q : Int32) (hok : MOk σ) : XMet l y_MO_axle [cw_MO_axle] rm_MO_axle (XP D dA s0 σ [.ref (xB s0 + XA 15 0), .int v, .int q]) (XQs D dA s0 xv_l (.inl (S_MO_axle σ v q))) 0 0 (xAm s0) := by
  refine XMet.ofW (cc := b_MO_axle) (maxL := 11) (ret := (some .long)) (by decide) rfl ?_
  intro p e s m args below meth c s₁ Bd hml hvA
  obtain ⟨rfl, hX, hO⟩ := hvA
  have hx := Bd.exec
  have hb := Bd.bytes
  have hr := Bd.returns
  have hown : s.vm.findClass "LoadChecksModel" = some m.cls := findClass_of_methodNamed Bd.named
  have hlocks := Bd.notSynchronized
  have hnt : c.exceptionTable.isEmpty = true := Bd.noHandlers (atoms_spec (ws := [cw_MO_axle]) Bd.pre _ List.mem_cons_self)
  have hW0 := hO.1
  have hts := xs_w (args := ([.ref (xB s0 + XA 15 0), .int v, .int q] : List Value).toArray) h0 hW0
  have hK := xs_K h0 hW0
  have hS := xo_S0 hO
  have hl := lv_entry ([.ref (xB s0 + XA 15 0), .int v, .int q]) (n := 11) (Nat.le_of_ble_eq_true rfl)
  rw [lg_entry_eq]
  generalize (lg_sl ([.ref (xB s0 + XA 15 0), .int v, .int q]) ++ List.replicate (11 - (lg_sl ([.ref (xB s0 + XA 15 0), .int v, .int q])).length) Slot.unset).toArray = ls at hl ⊢
  have hl : lv_has ls 11 [(0, .ref (xB s0 + XA 15 0)), (1, .int v), (2, .int q)] := hl
  generalize hR : S_MO_axle σ v q = res
  unfold S_MO_axle at hR
  refine lv_aload_n hx hb d_MO_axle_0 rfl (lv_at hl 0 rfl) ?_
  refine lv_aload_n hx hb d_MO_axle_1 rfl (lv_at hl 0 rfl) ?_
  refine lv_iload_n hx hb d_MO_axle_2 rfl (lv_at hl 1 rfl) ?_
  obtain ⟨cB3, hcB3, hoB3, hkB3⟩ := xw_recv (r := 15) (i := 0) hK hX (by decide) rfl rfl
  refine xc_f (rest := [.ref (xB s0 + XA 15 0)]) (x_invV (argsL := [.int v]) hx hb hown (hts _ w_679) (hts _ w_681) (hts _ w_21) (x_code (hts _ w_682)) ⟨by decide, by decide⟩ hcB3 hoB3 hkB3 rfl rfl rfl d_MO_axle_3) (c_MO_isVehicle h0 σ v) (xs_cw h0 hW0 m_682) (hts _ w_38) ⟨rfl, rfl, Nat.le_of_ble_eq_true rfl, Nat.le_of_ble_eq_true rfl⟩ (hl.1.trans hml.symm) (by rw [hb]; exact d_MO_axle_3) (Nat.le_of_ble_eq_true rfl) ⟨Nat.le_of_ble_eq_true rfl, Nat.le_of_ble_eq_true rfl⟩ hX ⟨hW0, xo_S hS⟩ ?_
  refine lv_if_eq (tgt := 18) hx hb d_MO_axle_6 (by decide) (fun c6 => ?_) (fun c6 => ?_)
  · rw [if_pos c6] at hR
    refine lv_iconst (v := 1) hx hb d_MO_axle_18 (by decide) ?_
    refine lv_goto (tgt := 23) hx hb d_MO_axle_19 (by decide) ?_
    refine lv_iconst (v := 0) hx hb d_MO_axle_23 (by decide) ?_
    refine lv_iconst (v := 0) hx hb d_MO_axle_24 (by decide) ?_
    refine lv_iconst (v := 0) hx hb d_MO_axle_25 (by decide) ?_
    obtain ⟨cB26, hcB26, hoB26, hkB26⟩ := xw_recv (r := 15) (i := 0) hK hX (by decide) rfl rfl
    refine xc_s (rest := []) (x_invV (argsL := [.int (1 : Int32), .int (0 : Int32), .int (0 : Int32), .int (0 : Int32)]) hx hb hown (hts _ w_671) (hts _ w_673) (hts _ w_20) (x_code (hts _ w_674)) ⟨by decide, by decide⟩ hcB26 hoB26 hkB26 rfl rfl rfl d_MO_axle_26) (c_MO_throwing h0 σ (1 : Int32) (0 : Int32) (0 : Int32) (0 : Int32)) (xs_cw h0 hW0 m_674) (hts _ w_38) ⟨rfl, rfl, Nat.le_of_ble_eq_true rfl, Nat.le_of_ble_eq_true rfl⟩ (hl.1.trans hml.symm) (by rw [hb]; exact d_MO_axle_26) (Nat.le_of_ble_eq_true rfl) ⟨Nat.le_of_ble_eq_true rfl, Nat.le_of_ble_eq_true rfl⟩ hX hW0 hS (fun v26 σ26 H locs hM26 hX hS => ?_) (fun E x H1 locs1 hM => by cases hM)
    obtain ⟨ev26, es26⟩ := x_inl hM26
    subst es26
    subst ev26
    refine lv_if_eq (tgt := 34) hx hb d_MO_axle_29 (by decide) (fun c29 => ?_) (fun c29 => ?_)
    · exact absurd c29 (thr_n1 (by decide))
    · refine lv_lconst (v := 0) hx hb d_MO_axle_32 (by decide) ?_
      subst hR
      refine W.widen (k := 0) (n := 0) (by decide) (by decide) ?_; exact xs_l hx hb hr hlocks hX hS d_MO_axle_33
  · rw [if_neg c6] at hR
    refine lv_iload_n hx hb d_MO_axle_9 rfl (lv_at hl 2 rfl) ?_
    refine lv_iconst (v := 0) hx hb d_MO_axle_10 (by decide) ?_
    refine lv_iconst (v := 3) hx hb d_MO_axle_11 (by decide) ?_
    refine xc_f (rest := [.ref (xB s0 + XA 15 0)]) (x_invS (argsL := [.int q, .int (0 : Int32), .int (3 : Int32)]) hx hb hown (hts _ w_664) (hts _ w_665) (hts _ w_38) (x_code (hts _ w_666)) ⟨by decide, by decide⟩ rfl rfl rfl d_MO_axle_12) (c_MO_in h0 σ q (0 : Int32) (3 : Int32)) (xs_cw h0 hW0 m_666) (hts _ w_38) ⟨rfl, rfl, Nat.le_of_ble_eq_true rfl, Nat.le_of_ble_eq_true rfl⟩ (hl.1.trans hml.symm) (by rw [hb]; exact d_MO_axle_12) (Nat.le_of_ble_eq_true rfl) ⟨Nat.le_of_ble_eq_true rfl, Nat.le_of_ble_eq_true rfl⟩ hX ⟨hW0, xo_S hS⟩ ?_
    refine lv_if_ne (tgt := 22) hx hb d_MO_axle_15 (by decide) (fun c15 => ?_) (fun c15 => ?_)
    · rw [if_neg c15] at hR
      have hv := m_veh hok c6
      have hb0 := o_axe hok c6 hv
      refine lv_iconst (v := 0) hx hb d_MO_axle_22 (by decide) ?_
      refine lv_iconst (v := 0) hx hb d_MO_axle_23 (by decide) ?_
      refine lv_iconst (v := 0) hx hb d_MO_axle_24 (by decide) ?_
      refine lv_iconst (v := 0) hx hb d_MO_axle_25 (by decide) ?_
      obtain ⟨cB26, hcB26, hoB26, hkB26⟩ := xw_recv (r := 15) (i := 0) hK hX (by decide) rfl rfl
      refine xc_s (rest := []) (x_invV (argsL := [.int (0 : Int32), .int (0 : Int32), .int (0 : Int32), .int (0 : Int32)]) hx hb hown (hts _ w_671) (hts _ w_673) (hts _ w_20) (x_code (hts _ w_674)) ⟨by decide, by decide⟩ hcB26 hoB26 hkB26 rfl rfl rfl d_MO_axle_26) (c_MO_throwing h0 σ (0 : Int32) (0 : Int32) (0 : Int32) (0 : Int32)) (xs_cw h0 hW0 m_674) (hts _ w_38) ⟨rfl, rfl, Nat.le_of_ble_eq_true rfl, Nat.le_of_ble_eq_true rfl⟩ (hl.1.trans hml.symm) (by rw [hb]; exact d_MO_axle_26) (Nat.le_of_ble_eq_true rfl) ⟨Nat.le_of_ble_eq_true rfl, Nat.le_of_ble_eq_true rfl⟩ hX hW0 hS (fun v26 σ26 H locs hM26 hX hS => ?_) (fun E x H1 locs1 hM => by cases hM)
      obtain ⟨ev26, es26⟩ := x_inl hM26
      subst es26
      subst ev26
      refine lv_if_eq (tgt := 34) hx hb d_MO_axle_29 (by decide) (fun c29 => ?_) (fun c29 => ?_)
      · refine lv_aload_n hx hb d_MO_axle_34 rfl (lv_at hl 0 rfl) ?_
        refine lv_iload_n hx hb d_MO_axle_35 rfl (lv_at hl 1 rfl) ?_
        refine lv_iload_n hx hb d_MO_axle_36 rfl (lv_at hl 2 rfl) ?_
        refine lv_iconst (v := 1) hx hb d_MO_axle_37 (by decide) ?_
        refine lv_icmp_le (tgt := 45) hx hb d_MO_axle_38 (by decide) (fun c38 => ?_) (fun c38 => ?_)
        · rw [if_pos c38] at hR
          refine lv_iconst (v := 0) hx hb d_MO_axle_45 (by decide) ?_
          obtain ⟨cB46, hcB46, hoB46, hkB46⟩ := xw_recv (r := 15) (i := 0) hK hX (by decide) rfl rfl
          refine xc_f (rest := []) (x_invV (argsL := [.int v, .int (0 : Int32)]) hx hb hown (hts _ w_726) (hts _ w_728) (hts _ w_26) (x_code (hts _ w_729)) ⟨by decide, by decide⟩ hcB46 hoB46 hkB46 rfl rfl rfl d_MO_axle_46) (c_MO_bears h0 ((S_MO_throwing σ (0 : Int32) (0 : Int32) (0 : Int32) (0 : Int32)).2) v (0 : Int32) hv) (xs_cw h0 hW0 m_729) (hts _ w_38) ⟨rfl, rfl, Nat.le_of_ble_eq_true rfl, Nat.le_of_ble_eq_true rfl⟩ (hl.1.trans hml.symm) (by rw [hb]; exact d_MO_axle_46) (Nat.le_of_ble_eq_true rfl) ⟨Nat.le_of_ble_eq_true rfl, Nat.le_of_ble_eq_true rfl⟩ hX ⟨hW0, xo_S hS⟩ ?_
          refine lv_lstore_n (lv' := [(3, .long (S_MO_bears ((S_MO_throwing σ (0 : Int32) (0 : Int32) (0 : Int32) (0 : Int32)).2) v (0 : Int32))), (0, .ref (xB s0 + XA 15 0)), (1, .int v), (2, .int q)]) hx hb d_MO_axle_49 rfl hl (by decide) rfl (fun ls hl => ?_)
          refine lv_lload_n hx hb d_MO_axle_50 rfl (lv_at hl 0 rfl) ?_
          refine lv_lconst (v := 0) hx hb d_MO_axle_51 (by decide) ?_
          refine W.lcmp hx hb d_MO_axle_52 ?_
          refine lv_if_ge (tgt := 61) hx hb d_MO_axle_53 (by decide) (fun c53 => ?_) (fun c53 => ?_)
          · rw [if_pos c53] at hR
            refine lv_lload_n hx hb d_MO_axle_61 rfl (lv_at hl 0 rfl) ?_
            refine lv_lstore (lv' := [(5, .long (S_MO_bears ((S_MO_throwing σ (0 : Int32) (0 : Int32) (0 : Int32) (0 : Int32)).2) v (0 : Int32))), (3, .long (S_MO_bears ((S_MO_throwing σ (0 : Int32) (0 : Int32) (0 : Int32) (0 : Int32)).2) v (0 : Int32))), (0, .ref (xB s0 + XA 15 0)), (1, .int v), (2, .int q)]) hx hb d_MO_axle_62 hl (by decide) rfl (fun ls hl => ?_)
            refine lv_aload_n hx hb d_MO_axle_64 rfl (lv_at hl 2 rfl) ?_
            refine xw_get (C := R_MO) (T := F_MO) (N := 20) (r := 15) (i := 0) hx hb hts hi_MO hown hK hX (by decide) rfl rfl 8 (by decide) (hts _ w_603) rfl rfl d_MO_axle_65 ?_
            refine lv_iload_n hx hb d_MO_axle_68 rfl (lv_at hl 3 rfl) ?_
            refine xw_iald (r := 20) (i := 0) hx hb hK hX (by decide) 0 rfl rfl (j := v) hv d_MO_axle_69 ?_
            refine lv_i2l hx hb d_MO_axle_70 rfl ?_
            refine lv_lstore (lv' := [(7, .long ((((S_MO_throwing σ (0 : Int32) (0 : Int32) (0 : Int32) (0 : Int32)).2).1 20 0 v.toNatClampNeg).toInt64)), (5, .long (S_MO_bears ((S_MO_throwing σ (0 : Int32) (0 : Int32) (0 : Int32) (0 : Int32)).2) v (0 : Int32))), (3, .long (S_MO_bears ((S_MO_throwing σ (0 : Int32) (0 : Int32) (0 : Int32) (0 : Int32)).2) v (0 : Int32))), (0, .ref (xB s0 + XA 15 0)), (1, .int v), (2, .int q)]) hx hb d_MO_axle_71 hl (by decide) rfl (fun ls hl => ?_)
            exact l_MO_axle h0 hx hb hr hml hown hlocks hnt hO (((((S_MO_throwing σ (0 : Int32) (0 : Int32) (0 : Int32) (0 : Int32)).2).1 20 0 v.toNatClampNeg).toInt64).toInt.toNat + 1) ((S_MO_throwing σ (0 : Int32) (0 : Int32) (0 : Int32) (0 : Int32)).2) v q (S_MO_bears ((S_MO_throwing σ (0 : Int32) (0 : Int32) (0 : Int32) (0 : Int32)).2) v (0 : Int32)) (S_MO_bears ((S_MO_throwing σ (0 : Int32) (0 : Int32) (0 : Int32) (0 : Int32)).2) v (0 : Int32)) ((((S_MO_throwing σ (0 : Int32) (0 : Int32) (0 : Int32) (0 : Int32)).2).1 20 0 v.toNatClampNeg).toInt64) (Nat.lt_succ_self _)  hv (Or.inr hb0) hX hS ls (lv_sub hl [3, 4, 5, 2, 1, 0] rfl) res hR
          · rw [if_neg c53] at hR
            refine lv_lload_n hx hb d_MO_axle_56 rfl (lv_at hl 0 rfl) ?_
            refine lv_lneg hx hb d_MO_axle_57 ?_
            refine lv_goto (tgt := 62) hx hb d_MO_axle_58 (by decide) ?_
            refine lv_lstore (lv' := [(5, .long (-(S_MO_bears ((S_MO_throwing σ (0 : Int32) (0 : Int32) (0 : Int32) (0 : Int32)).2) v (0 : Int32)))), (3, .long (S_MO_bears ((S_MO_throwing σ (0 : Int32) (0 : Int32) (0 : Int32) (0 : Int32)).2) v (0 : Int32))), (0, .ref (xB s0 + XA 15 0)), (1, .int v), (2, .int q)]) hx hb d_MO_axle_62 hl (by decide) rfl (fun ls hl => ?_)
            refine lv_aload_n hx hb d_MO_axle_64 rfl (lv_at hl 2 rfl) ?_
            refine xw_get (C := R_MO) (T := F_MO) (N := 20) (r := 15) (i := 0) hx hb hts hi_MO hown hK hX (by decide) rfl rfl 8 (by decide) (hts _ w_603) rfl rfl d_MO_axle_65 ?_
            refine lv_iload_n hx hb d_MO_axle_68 rfl (lv_at hl 3 rfl) ?_
            refine xw_iald (r := 20) (i := 0) hx hb hK hX (by decide) 0 rfl rfl (j := v) hv d_MO_axle_69 ?_
            refine lv_i2l hx hb d_MO_axle_70 rfl ?_
            refine lv_lstore (lv' := [(7, .long ((((S_MO_throwing σ (0 : Int32) (0 : Int32) (0 : Int32) (0 : Int32)).2).1 20 0 v.toNatClampNeg).toInt64)), (5, .long (-(S_MO_bears ((S_MO_throwing σ (0 : Int32) (0 : Int32) (0 : Int32) (0 : Int32)).2) v (0 : Int32)))), (3, .long (S_MO_bears ((S_MO_throwing σ (0 : Int32) (0 : Int32) (0 : Int32) (0 : Int32)).2) v (0 : Int32))), (0, .ref (xB s0 + XA 15 0)), (1, .int v), (2, .int q)]) hx hb d_MO_axle_71 hl (by decide) rfl (fun ls hl => ?_)
            exact l_MO_axle h0 hx hb hr hml hown hlocks hnt hO (((((S_MO_throwing σ (0 : Int32) (0 : Int32) (0 : Int32) (0 : Int32)).2).1 20 0 v.toNatClampNeg).toInt64).toInt.toNat + 1) ((S_MO_throwing σ (0 : Int32) (0 : Int32) (0 : Int32) (0 : Int32)).2) v q (S_MO_bears ((S_MO_throwing σ (0 : Int32) (0 : Int32) (0 : Int32) (0 : Int32)).2) v (0 : Int32)) (-(S_MO_bears ((S_MO_throwing σ (0 : Int32) (0 : Int32) (0 : Int32) (0 : Int32)).2) v (0 : Int32))) ((((S_MO_throwing σ (0 : Int32) (0 : Int32) (0 : Int32) (0 : Int32)).2).1 20 0 v.toNatClampNeg).toInt64) (Nat.lt_succ_self _)  hv (Or.inr hb0) hX hS ls (lv_sub hl [3, 4, 5, 2, 1, 0] rfl) res hR
        · rw [if_neg c38] at hR
          refine lv_iconst (v := 1) hx hb d_MO_axle_41 (by decide) ?_
          refine lv_goto (tgt := 46) hx hb d_MO_axle_42 (by decide) ?_
          obtain ⟨cB46, hcB46, hoB46, hkB46⟩ := xw_recv (r := 15) (i := 0) hK hX (by decide) rfl rfl
          refine xc_f (rest := []) (x_invV (argsL := [.int v, .int (1 : Int32)]) hx hb hown (hts _ w_726) (hts _ w_728) (hts _ w_26) (x_code (hts _ w_729)) ⟨by decide, by decide⟩ hcB46 hoB46 hkB46 rfl rfl rfl d_MO_axle_46) (c_MO_bears h0 ((S_MO_throwing σ (0 : Int32) (0 : Int32) (0 : Int32) (0 : Int32)).2) v (1 : Int32) hv) (xs_cw h0 hW0 m_729) (hts _ w_38) ⟨rfl, rfl, Nat.le_of_ble_eq_true rfl, Nat.le_of_ble_eq_true rfl⟩ (hl.1.trans hml.symm) (by rw [hb]; exact d_MO_axle_46) (Nat.le_of_ble_eq_true rfl) ⟨Nat.le_of_ble_eq_true rfl, Nat.le_of_ble_eq_true rfl⟩ hX ⟨hW0, xo_S hS⟩ ?_
          refine lv_lstore_n (lv' := [(3, .long (S_MO_bears ((S_MO_throwing σ (0 : Int32) (0 : Int32) (0 : Int32) (0 : Int32)).2) v (1 : Int32))), (0, .ref (xB s0 + XA 15 0)), (1, .int v), (2, .int q)]) hx hb d_MO_axle_49 rfl hl (by decide) rfl (fun ls hl => ?_)
          refine lv_lload_n hx hb d_MO_axle_50 rfl (lv_at hl 0 rfl) ?_
          refine lv_lconst (v := 0) hx hb d_MO_axle_51 (by decide) ?_
          refine W.lcmp hx hb d_MO_axle_52 ?_
          refine lv_if_ge (tgt := 61) hx hb d_MO_axle_53 (by decide) (fun c53 => ?_) (fun c53 => ?_)
          · rw [if_pos c53] at hR
            refine lv_lload_n hx hb d_MO_axle_61 rfl (lv_at hl 0 rfl) ?_
            refine lv_lstore (lv' := [(5, .long (S_MO_bears ((S_MO_throwing σ (0 : Int32) (0 : Int32) (0 : Int32) (0 : Int32)).2) v (1 : Int32))), (3, .long (S_MO_bears ((S_MO_throwing σ (0 : Int32) (0 : Int32) (0 : Int32) (0 : Int32)).2) v (1 : Int32))), (0, .ref (xB s0 + XA 15 0)), (1, .int v), (2, .int q)]) hx hb d_MO_axle_62 hl (by decide) rfl (fun ls hl => ?_)
            refine lv_aload_n hx hb d_MO_axle_64 rfl (lv_at hl 2 rfl) ?_
            refine xw_get (C := R_MO) (T := F_MO) (N := 20) (r := 15) (i := 0) hx hb hts hi_MO hown hK hX (by decide) rfl rfl 8 (by decide) (hts _ w_603) rfl rfl d_MO_axle_65 ?_
            refine lv_iload_n hx hb d_MO_axle_68 rfl (lv_at hl 3 rfl) ?_
            refine xw_iald (r := 20) (i := 0) hx hb hK hX (by decide) 0 rfl rfl (j := v) hv d_MO_axle_69 ?_
            refine lv_i2l hx hb d_MO_axle_70 rfl ?_
            refine lv_lstore (lv' := [(7, .long ((((S_MO_throwing σ (0 : Int32) (0 : Int32) (0 : Int32) (0 : Int32)).2).1 20 0 v.toNatClampNeg).toInt64)), (5, .long (S_MO_bears ((S_MO_throwing σ (0 : Int32) (0 : Int32) (0 : Int32) (0 : Int32)).2) v (1 : Int32))), (3, .long (S_MO_bears ((S_MO_throwing σ (0 : Int32) (0 : Int32) (0 : Int32) (0 : Int32)).2) v (1 : Int32))), (0, .ref (xB s0 + XA 15 0)), (1, .int v), (2, .int q)]) hx hb d_MO_axle_71 hl (by decide) rfl (fun ls hl => ?_)
            exact l_MO_axle h0 hx hb hr hml hown hlocks hnt hO (((((S_MO_throwing σ (0 : Int32) (0 : Int32) (0 : Int32) (0 : Int32)).2).1 20 0 v.toNatClampNeg).toInt64).toInt.toNat + 1) ((S_MO_throwing σ (0 : Int32) (0 : Int32) (0 : Int32) (0 : Int32)).2) v q (S_MO_bears ((S_MO_throwing σ (0 : Int32) (0 : Int32) (0 : Int32) (0 : Int32)).2) v (1 : Int32)) (S_MO_bears ((S_MO_throwing σ (0 : Int32) (0 : Int32) (0 : Int32) (0 : Int32)).2) v (1 : Int32)) ((((S_MO_throwing σ (0 : Int32) (0 : Int32) (0 : Int32) (0 : Int32)).2).1 20 0 v.toNatClampNeg).toInt64) (Nat.lt_succ_self _)  hv (Or.inr hb0) hX hS ls (lv_sub hl [3, 4, 5, 2, 1, 0] rfl) res hR
          · rw [if_neg c53] at hR
            refine lv_lload_n hx hb d_MO_axle_56 rfl (lv_at hl 0 rfl) ?_
            refine lv_lneg hx hb d_MO_axle_57 ?_
            refine lv_goto (tgt := 62) hx hb d_MO_axle_58 (by decide) ?_
            refine lv_lstore (lv' := [(5, .long (-(S_MO_bears ((S_MO_throwing σ (0 : Int32) (0 : Int32) (0 : Int32) (0 : Int32)).2) v (1 : Int32)))), (3, .long (S_MO_bears ((S_MO_throwing σ (0 : Int32) (0 : Int32) (0 : Int32) (0 : Int32)).2) v (1 : Int32))), (0, .ref (xB s0 + XA 15 0)), (1, .int v), (2, .int q)]) hx hb d_MO_axle_62 hl (by decide) rfl (fun ls hl => ?_)
            refine lv_aload_n hx hb d_MO_axle_64 rfl (lv_at hl 2 rfl) ?_
            refine xw_get (C := R_MO) (T := F_MO) (N := 20) (r := 15) (i := 0) hx hb hts hi_MO hown hK hX (by decide) rfl rfl 8 (by decide) (hts _ w_603) rfl rfl d_MO_axle_65 ?_
            refine lv_iload_n hx hb d_MO_axle_68 rfl (lv_at hl 3 rfl) ?_
            refine xw_iald (r := 20) (i := 0) hx hb hK hX (by decide) 0 rfl rfl (j := v) hv d_MO_axle_69 ?_
            refine lv_i2l hx hb d_MO_axle_70 rfl ?_
            refine lv_lstore (lv' := [(7, .long ((((S_MO_throwing σ (0 : Int32) (0 : Int32) (0 : Int32) (0 : Int32)).2).1 20 0 v.toNatClampNeg).toInt64)), (5, .long (-(S_MO_bears ((S_MO_throwing σ (0 : Int32) (0 : Int32) (0 : Int32) (0 : Int32)).2) v (1 : Int32)))), (3, .long (S_MO_bears ((S_MO_throwing σ (0 : Int32) (0 : Int32) (0 : Int32) (0 : Int32)).2) v (1 : Int32))), (0, .ref (xB s0 + XA 15 0)), (1, .int v), (2, .int q)]) hx hb d_MO_axle_71 hl (by decide) rfl (fun ls hl => ?_)
            exact l_MO_axle h0 hx hb hr hml hown hlocks hnt hO (((((S_MO_throwing σ (0 : Int32) (0 : Int32) (0 : Int32) (0 : Int32)).2).1 20 0 v.toNatClampNeg).toInt64).toInt.toNat + 1) ((S_MO_throwing σ (0 : Int32) (0 : Int32) (0 : Int32) (0 : Int32)).2) v q (S_MO_bears ((S_MO_throwing σ (0 : Int32) (0 : Int32) (0 : Int32) (0 : Int32)).2) v (1 : Int32)) (-(S_MO_bears ((S_MO_throwing σ (0 : Int32) (0 : Int32) (0 : Int32) (0 : Int32)).2) v (1 : Int32))) ((((S_MO_throwing σ (0 : Int32) (0 : Int32) (0 : Int32) (0 : Int32)).2).1 20 0 v.toNatClampNeg).toInt64) (Nat.lt_succ_self _)  hv (Or.inr hb0) hX hS ls (lv_sub hl [3, 4, 5, 2, 1, 0] rfl) res hR
      · exact absurd thr_z c29
    · rw [if_pos c15] at hR
      refine lv_iconst (v := 1) hx hb d_MO_axle_18 (by decide) ?_
      refine lv_goto (tgt := 23) hx hb d_MO_axle_19 (by decide) ?_
      refine lv_iconst (v := 0) hx hb d_MO_axle_23 (by decide) ?_
      refine lv_iconst (v := 0) hx hb d_MO_axle_24 (by decide) ?_
      refine lv_iconst (v := 0) hx hb d_MO_axle_25 (by decide) ?_
      obtain ⟨cB26, hcB26, hoB26, hkB26⟩ := xw_recv (r := 15) (i := 0) hK hX (by decide) rfl rfl
      refine xc_s (rest := []) (x_invV (argsL := [.int (1 : Int32), .int (0 : Int32), .int (0 : Int32), .int (0 : Int32)]) hx hb hown (hts _ w_671) (hts _ w_673) (hts _ w_20) (x_code (hts _ w_674)) ⟨by decide, by decide⟩ hcB26 hoB26 hkB26 rfl rfl rfl d_MO_axle_26) (c_MO_throwing h0 σ (1 : Int32) (0 : Int32) (0 : Int32) (0 : Int32)) (xs_cw h0 hW0 m_674) (hts _ w_38) ⟨rfl, rfl, Nat.le_of_ble_eq_true rfl, Nat.le_of_ble_eq_true rfl⟩ (hl.1.trans hml.symm) (by rw [hb]; exact d_MO_axle_26) (Nat.le_of_ble_eq_true rfl) ⟨Nat.le_of_ble_eq_true rfl, Nat.le_of_ble_eq_true rfl⟩ hX hW0 hS (fun v26 σ26 H locs hM26 hX hS => ?_) (fun E x H1 locs1 hM => by cases hM)
      obtain ⟨ev26, es26⟩ := x_inl hM26
      subst es26
      subst ev26
      refine lv_if_eq (tgt := 34) hx hb d_MO_axle_29 (by decide) (fun c29 => ?_) (fun c29 => ?_)
      · exact absurd c29 (thr_n1 (by decide))
      · refine lv_lconst (v := 0) hx hb d_MO_axle_32 (by decide) ?_
        subst hR
        refine W.widen (k := 0) (n := 0) (by decide) (by decide) ?_; exact xs_l hx hb hr hlocks hX hS d_MO_axle_33

abbrev rm_MO_row : Room := { frames := 1, cells := 0, slots := 0, locals := 24 }
def S_MO_row (σ : XS) (a : Int32) (b : Int32) : Int32 × XS := (if (S_MO_in σ a (0 : Int32) ((σ.1 15 0 18) - (1 : Int32))) = 0 then ((0 : Int32), (S_MO_throwing σ (1 : Int32) (0 : Int32) (0 : Int32) (0 : Int32)).2) else (if a < ((σ.1 15 0 18) - (100 : Int32)) then ((0 : Int32), (S_MO_throwing σ (1 : Int32) (0 : Int32) (0 : Int32) (0 : Int32)).2) else (if (S_MO_in σ b (0 : Int32) (2 : Int32)) = 0 then ((0 : Int32), (S_MO_throwing σ (1 : Int32) (0 : Int32) (0 : Int32) (0 : Int32)).2) else ((((S_MO_throwing σ (0 : Int32) (0 : Int32) (0 : Int32) (0 : Int32)).2).1 30 0 (((3 : Int32) * (a - a / (100 : Int32) * (100 : Int32))) + b).toNatClampNeg), (S_MO_throwing σ (0 : Int32) (0 : Int32) (0 : Int32) (0 : Int32)).2))))
set_option maxHeartbeats 4000000 in
set_option maxRecDepth 100000 in
theorem c_MO_row {l : Launch} {s0 : State} {A0 : Array Value} {D : va_G} {dA : Nat → ClassId} (h0 : XS0 l s0 A0 D dA) (σ : XS) (a : Int32) (b : Int32)  : XMet l y_MO_row [cw_MO_row] rm_MO_row (XP D dA s0 σ [.ref (xB s0 + XA 15 0), .int a, .int b]) (XQs D dA s0 xv_i (.inl (S_MO_row σ a b))) 0 0 (xAm s0) := by
  refine XMet.ofW (cc := b_MO_row) (maxL := 4) (ret := (some .int)) (by decide) rfl ?_
  intro p e s m args below meth c s₁ Bd hml hvA
  obtain ⟨rfl, hX, hO⟩ := hvA
  have hx := Bd.exec
  have hb := Bd.bytes
  have hr := Bd.returns
  have hown : s.vm.findClass "LoadChecksModel" = some m.cls := findClass_of_methodNamed Bd.named
  have hlocks := Bd.notSynchronized
  have hnt : c.exceptionTable.isEmpty = true := Bd.noHandlers (atoms_spec (ws := [cw_MO_row]) Bd.pre _ List.mem_cons_self)
  have hW0 := hO.1
  have hts := xs_w (args := ([.ref (xB s0 + XA 15 0), .int a, .int b] : List Value).toArray) h0 hW0
  have hK := xs_K h0 hW0
  have hS := xo_S0 hO
  have hl := lv_entry ([.ref (xB s0 + XA 15 0), .int a, .int b]) (n := 4) (Nat.le_of_ble_eq_true rfl)
  rw [lg_entry_eq]
  generalize (lg_sl ([.ref (xB s0 + XA 15 0), .int a, .int b]) ++ List.replicate (4 - (lg_sl ([.ref (xB s0 + XA 15 0), .int a, .int b])).length) Slot.unset).toArray = ls at hl ⊢
  have hl : lv_has ls 4 [(0, .ref (xB s0 + XA 15 0)), (1, .int a), (2, .int b)] := hl
  generalize hR : S_MO_row σ a b = res
  unfold S_MO_row at hR
  refine lv_iload_n hx hb d_MO_row_0 rfl (lv_at hl 1 rfl) ?_
  refine lv_iconst (v := 0) hx hb d_MO_row_1 (by decide) ?_
  refine lv_aload_n hx hb d_MO_row_2 rfl (lv_at hl 0 rfl) ?_
  refine xw_get (C := R_MO) (T := F_MO) (N := 20) (r := 15) (i := 0) hx hb hts hi_MO hown hK hX (by decide) rfl rfl 18 (by decide) (hts _ w_613) rfl rfl d_MO_row_3 ?_
  refine lv_iconst (v := 1) hx hb d_MO_row_6 (by decide) ?_
  refine lv_isub hx hb d_MO_row_7 ?_
  refine xc_f (rest := []) (x_invS (argsL := [.int a, .int (0 : Int32), .int ((σ.1 15 0 18) - (1 : Int32))]) hx hb hown (hts _ w_664) (hts _ w_665) (hts _ w_38) (x_code (hts _ w_666)) ⟨by decide, by decide⟩ rfl rfl rfl d_MO_row_8) (c_MO_in h0 σ a (0 : Int32) ((σ.1 15 0 18) - (1 : Int32))) (xs_cw h0 hW0 m_666) (hts _ w_38) ⟨rfl, rfl, Nat.le_of_ble_eq_true rfl, Nat.le_of_ble_eq_true rfl⟩ (hl.1.trans hml.symm) (by rw [hb]; exact d_MO_row_8) (Nat.le_of_ble_eq_true rfl) ⟨Nat.le_of_ble_eq_true rfl, Nat.le_of_ble_eq_true rfl⟩ hX ⟨hW0, xo_S hS⟩ ?_
  refine lv_if_eq (tgt := 29) hx hb d_MO_row_11 (by decide) (fun c11 => ?_) (fun c11 => ?_)
  · rw [if_pos c11] at hR
    refine lv_iconst (v := 0) hx hb d_MO_row_29 (by decide) ?_
    refine lv_istore_n (lv' := [(3, .int (0 : Int32)), (0, .ref (xB s0 + XA 15 0)), (1, .int a), (2, .int b)]) hx hb d_MO_row_30 rfl hl (by decide) rfl (fun ls hl => ?_)
    refine lv_aload_n hx hb d_MO_row_31 rfl (lv_at hl 1 rfl) ?_
    refine lv_iload_n hx hb d_MO_row_32 rfl (lv_at hl 0 rfl) ?_
    refine lv_if_eq (tgt := 45) hx hb d_MO_row_33 (by decide) (fun c33 => ?_) (fun c33 => ?_)
    · refine lv_iconst (v := 1) hx hb d_MO_row_45 (by decide) ?_
      refine lv_goto (tgt := 50) hx hb d_MO_row_46 (by decide) ?_
      refine lv_iconst (v := 0) hx hb d_MO_row_50 (by decide) ?_
      refine lv_iconst (v := 0) hx hb d_MO_row_51 (by decide) ?_
      refine lv_iconst (v := 0) hx hb d_MO_row_52 (by decide) ?_
      obtain ⟨cB53, hcB53, hoB53, hkB53⟩ := xw_recv (r := 15) (i := 0) hK hX (by decide) rfl rfl
      refine xc_s (rest := []) (x_invV (argsL := [.int (1 : Int32), .int (0 : Int32), .int (0 : Int32), .int (0 : Int32)]) hx hb hown (hts _ w_671) (hts _ w_673) (hts _ w_20) (x_code (hts _ w_674)) ⟨by decide, by decide⟩ hcB53 hoB53 hkB53 rfl rfl rfl d_MO_row_53) (c_MO_throwing h0 σ (1 : Int32) (0 : Int32) (0 : Int32) (0 : Int32)) (xs_cw h0 hW0 m_674) (hts _ w_38) ⟨rfl, rfl, Nat.le_of_ble_eq_true rfl, Nat.le_of_ble_eq_true rfl⟩ (hl.1.trans hml.symm) (by rw [hb]; exact d_MO_row_53) (Nat.le_of_ble_eq_true rfl) ⟨Nat.le_of_ble_eq_true rfl, Nat.le_of_ble_eq_true rfl⟩ hX hW0 hS (fun v53 σ53 H locs hM53 hX hS => ?_) (fun E x H1 locs1 hM => by cases hM)
      obtain ⟨ev53, es53⟩ := x_inl hM53
      subst es53
      subst ev53
      refine lv_if_eq (tgt := 61) hx hb d_MO_row_56 (by decide) (fun c56 => ?_) (fun c56 => ?_)
      · exact absurd c56 (thr_n1 (by decide))
      · refine lv_iconst (v := 0) hx hb d_MO_row_59 (by decide) ?_
        subst hR
        refine W.widen (k := 0) (n := 0) (by decide) (by decide) ?_; exact xs_i hx hb hr hlocks hX hS d_MO_row_60
    · exact absurd (by decide) c33
  · rw [if_neg c11] at hR
    refine lv_iload_n hx hb d_MO_row_14 rfl (lv_at hl 1 rfl) ?_
    refine lv_aload_n hx hb d_MO_row_15 rfl (lv_at hl 0 rfl) ?_
    refine xw_get (C := R_MO) (T := F_MO) (N := 20) (r := 15) (i := 0) hx hb hts hi_MO hown hK hX (by decide) rfl rfl 18 (by decide) (hts _ w_613) rfl rfl d_MO_row_16 ?_
    refine lv_bipush (v := 100) hx hb d_MO_row_19 (by decide) ?_
    refine lv_isub hx hb d_MO_row_21 ?_
    refine lv_icmp_lt (tgt := 29) hx hb d_MO_row_22 (by decide) (fun c22 => ?_) (fun c22 => ?_)
    · rw [if_pos c22] at hR
      refine lv_iconst (v := 0) hx hb d_MO_row_29 (by decide) ?_
      refine lv_istore_n (lv' := [(3, .int (0 : Int32)), (0, .ref (xB s0 + XA 15 0)), (1, .int a), (2, .int b)]) hx hb d_MO_row_30 rfl hl (by decide) rfl (fun ls hl => ?_)
      refine lv_aload_n hx hb d_MO_row_31 rfl (lv_at hl 1 rfl) ?_
      refine lv_iload_n hx hb d_MO_row_32 rfl (lv_at hl 0 rfl) ?_
      refine lv_if_eq (tgt := 45) hx hb d_MO_row_33 (by decide) (fun c33 => ?_) (fun c33 => ?_)
      · refine lv_iconst (v := 1) hx hb d_MO_row_45 (by decide) ?_
        refine lv_goto (tgt := 50) hx hb d_MO_row_46 (by decide) ?_
        refine lv_iconst (v := 0) hx hb d_MO_row_50 (by decide) ?_
        refine lv_iconst (v := 0) hx hb d_MO_row_51 (by decide) ?_
        refine lv_iconst (v := 0) hx hb d_MO_row_52 (by decide) ?_
        obtain ⟨cB53, hcB53, hoB53, hkB53⟩ := xw_recv (r := 15) (i := 0) hK hX (by decide) rfl rfl
        refine xc_s (rest := []) (x_invV (argsL := [.int (1 : Int32), .int (0 : Int32), .int (0 : Int32), .int (0 : Int32)]) hx hb hown (hts _ w_671) (hts _ w_673) (hts _ w_20) (x_code (hts _ w_674)) ⟨by decide, by decide⟩ hcB53 hoB53 hkB53 rfl rfl rfl d_MO_row_53) (c_MO_throwing h0 σ (1 : Int32) (0 : Int32) (0 : Int32) (0 : Int32)) (xs_cw h0 hW0 m_674) (hts _ w_38) ⟨rfl, rfl, Nat.le_of_ble_eq_true rfl, Nat.le_of_ble_eq_true rfl⟩ (hl.1.trans hml.symm) (by rw [hb]; exact d_MO_row_53) (Nat.le_of_ble_eq_true rfl) ⟨Nat.le_of_ble_eq_true rfl, Nat.le_of_ble_eq_true rfl⟩ hX hW0 hS (fun v53 σ53 H locs hM53 hX hS => ?_) (fun E x H1 locs1 hM => by cases hM)
        obtain ⟨ev53, es53⟩ := x_inl hM53
        subst es53
        subst ev53
        refine lv_if_eq (tgt := 61) hx hb d_MO_row_56 (by decide) (fun c56 => ?_) (fun c56 => ?_)
        · exact absurd c56 (thr_n1 (by decide))
        · refine lv_iconst (v := 0) hx hb d_MO_row_59 (by decide) ?_
          subst hR
          refine W.widen (k := 0) (n := 0) (by decide) (by decide) ?_; exact xs_i hx hb hr hlocks hX hS d_MO_row_60
      · exact absurd (by decide) c33
    · rw [if_neg c22] at hR
      refine lv_iconst (v := 1) hx hb d_MO_row_25 (by decide) ?_
      refine lv_goto (tgt := 30) hx hb d_MO_row_26 (by decide) ?_
      refine lv_istore_n (lv' := [(3, .int (1 : Int32)), (0, .ref (xB s0 + XA 15 0)), (1, .int a), (2, .int b)]) hx hb d_MO_row_30 rfl hl (by decide) rfl (fun ls hl => ?_)
      refine lv_aload_n hx hb d_MO_row_31 rfl (lv_at hl 1 rfl) ?_
      refine lv_iload_n hx hb d_MO_row_32 rfl (lv_at hl 0 rfl) ?_
      refine lv_if_eq (tgt := 45) hx hb d_MO_row_33 (by decide) (fun c33 => ?_) (fun c33 => ?_)
      · exact absurd c33 (by decide)
      · refine lv_iload_n hx hb d_MO_row_36 rfl (lv_at hl 3 rfl) ?_
        refine lv_iconst (v := 0) hx hb d_MO_row_37 (by decide) ?_
        refine lv_iconst (v := 2) hx hb d_MO_row_38 (by decide) ?_
        refine xc_f (rest := [.ref (xB s0 + XA 15 0)]) (x_invS (argsL := [.int b, .int (0 : Int32), .int (2 : Int32)]) hx hb hown (hts _ w_664) (hts _ w_665) (hts _ w_38) (x_code (hts _ w_666)) ⟨by decide, by decide⟩ rfl rfl rfl d_MO_row_39) (c_MO_in h0 σ b (0 : Int32) (2 : Int32)) (xs_cw h0 hW0 m_666) (hts _ w_38) ⟨rfl, rfl, Nat.le_of_ble_eq_true rfl, Nat.le_of_ble_eq_true rfl⟩ (hl.1.trans hml.symm) (by rw [hb]; exact d_MO_row_39) (Nat.le_of_ble_eq_true rfl) ⟨Nat.le_of_ble_eq_true rfl, Nat.le_of_ble_eq_true rfl⟩ hX ⟨hW0, xo_S hS⟩ ?_
        refine lv_if_ne (tgt := 49) hx hb d_MO_row_42 (by decide) (fun c42 => ?_) (fun c42 => ?_)
        · rw [if_neg c42] at hR
          refine lv_iconst (v := 0) hx hb d_MO_row_49 (by decide) ?_
          refine lv_iconst (v := 0) hx hb d_MO_row_50 (by decide) ?_
          refine lv_iconst (v := 0) hx hb d_MO_row_51 (by decide) ?_
          refine lv_iconst (v := 0) hx hb d_MO_row_52 (by decide) ?_
          obtain ⟨cB53, hcB53, hoB53, hkB53⟩ := xw_recv (r := 15) (i := 0) hK hX (by decide) rfl rfl
          refine xc_s (rest := []) (x_invV (argsL := [.int (0 : Int32), .int (0 : Int32), .int (0 : Int32), .int (0 : Int32)]) hx hb hown (hts _ w_671) (hts _ w_673) (hts _ w_20) (x_code (hts _ w_674)) ⟨by decide, by decide⟩ hcB53 hoB53 hkB53 rfl rfl rfl d_MO_row_53) (c_MO_throwing h0 σ (0 : Int32) (0 : Int32) (0 : Int32) (0 : Int32)) (xs_cw h0 hW0 m_674) (hts _ w_38) ⟨rfl, rfl, Nat.le_of_ble_eq_true rfl, Nat.le_of_ble_eq_true rfl⟩ (hl.1.trans hml.symm) (by rw [hb]; exact d_MO_row_53) (Nat.le_of_ble_eq_true rfl) ⟨Nat.le_of_ble_eq_true rfl, Nat.le_of_ble_eq_true rfl⟩ hX hW0 hS (fun v53 σ53 H locs hM53 hX hS => ?_) (fun E x H1 locs1 hM => by cases hM)
          obtain ⟨ev53, es53⟩ := x_inl hM53
          subst es53
          subst ev53
          refine lv_if_eq (tgt := 61) hx hb d_MO_row_56 (by decide) (fun c56 => ?_) (fun c56 => ?_)
          · refine lv_aload_n hx hb d_MO_row_61 rfl (lv_at hl 1 rfl) ?_
            refine xw_get (C := R_MO) (T := F_MO) (N := 20) (r := 15) (i := 0) hx hb hts hi_MO hown hK hX (by decide) rfl rfl 19 (by decide) (hts _ w_614) rfl rfl d_MO_row_62 ?_
            refine lv_iconst (v := 3) hx hb d_MO_row_65 (by decide) ?_
            refine lv_iload_n hx hb d_MO_row_66 rfl (lv_at hl 2 rfl) ?_
            refine lv_bipush (v := 100) hx hb d_MO_row_67 (by decide) ?_
            refine lv_irem hx hb d_MO_row_69 (by decide) ?_
            refine lv_imul hx hb d_MO_row_70 ?_
            refine lv_iload_n hx hb d_MO_row_71 rfl (lv_at hl 3 rfl) ?_
            refine lv_iadd hx hb d_MO_row_72 ?_
            refine xw_iald (r := 30) (i := 0) hx hb hK hX (by decide) 0 rfl rfl (j := (((3 : Int32) * (a - a / (100 : Int32) * (100 : Int32))) + b)) (o_told c11 c42) d_MO_row_73 ?_
            subst hR
            refine W.widen (k := 0) (n := 0) (by decide) (by decide) ?_; exact xs_i hx hb hr hlocks hX hS d_MO_row_74
          · exact absurd thr_z c56
        · rw [if_pos c42] at hR
          refine lv_iconst (v := 1) hx hb d_MO_row_45 (by decide) ?_
          refine lv_goto (tgt := 50) hx hb d_MO_row_46 (by decide) ?_
          refine lv_iconst (v := 0) hx hb d_MO_row_50 (by decide) ?_
          refine lv_iconst (v := 0) hx hb d_MO_row_51 (by decide) ?_
          refine lv_iconst (v := 0) hx hb d_MO_row_52 (by decide) ?_
          obtain ⟨cB53, hcB53, hoB53, hkB53⟩ := xw_recv (r := 15) (i := 0) hK hX (by decide) rfl rfl
          refine xc_s (rest := []) (x_invV (argsL := [.int (1 : Int32), .int (0 : Int32), .int (0 : Int32), .int (0 : Int32)]) hx hb hown (hts _ w_671) (hts _ w_673) (hts _ w_20) (x_code (hts _ w_674)) ⟨by decide, by decide⟩ hcB53 hoB53 hkB53 rfl rfl rfl d_MO_row_53) (c_MO_throwing h0 σ (1 : Int32) (0 : Int32) (0 : Int32) (0 : Int32)) (xs_cw h0 hW0 m_674) (hts _ w_38) ⟨rfl, rfl, Nat.le_of_ble_eq_true rfl, Nat.le_of_ble_eq_true rfl⟩ (hl.1.trans hml.symm) (by rw [hb]; exact d_MO_row_53) (Nat.le_of_ble_eq_true rfl) ⟨Nat.le_of_ble_eq_true rfl, Nat.le_of_ble_eq_true rfl⟩ hX hW0 hS (fun v53 σ53 H locs hM53 hX hS => ?_) (fun E x H1 locs1 hM => by cases hM)
          obtain ⟨ev53, es53⟩ := x_inl hM53
          subst es53
          subst ev53
          refine lv_if_eq (tgt := 61) hx hb d_MO_row_56 (by decide) (fun c56 => ?_) (fun c56 => ?_)
          · exact absurd c56 (thr_n1 (by decide))
          · refine lv_iconst (v := 0) hx hb d_MO_row_59 (by decide) ?_
            subst hR
            refine W.widen (k := 0) (n := 0) (by decide) (by decide) ?_; exact xs_i hx hb hr hlocks hX hS d_MO_row_60

abbrev rm_MO_has : Room := { frames := 3, cells := 0, slots := 0, locals := 66 }
def S_MO_has (σ : XS) (v : Int32) (cu : Int32) (it : Int32) : Int32 × XS := (if (S_MO_isThing σ v cu it) = 0 then ((0 : Int32), (S_MO_throwing σ (1 : Int32) (0 : Int32) (0 : Int32) (0 : Int32)).2) else ((((S_MO_throwing σ (0 : Int32) (0 : Int32) (0 : Int32) (0 : Int32)).2).1 28 0 ((((240 : Int32) * v) + ((30 : Int32) * cu)) + it).toNatClampNeg), (S_MO_throwing σ (0 : Int32) (0 : Int32) (0 : Int32) (0 : Int32)).2))
set_option maxHeartbeats 4000000 in
set_option maxRecDepth 100000 in
theorem c_MO_has {l : Launch} {s0 : State} {A0 : Array Value} {D : va_G} {dA : Nat → ClassId} (h0 : XS0 l s0 A0 D dA) (σ : XS) (v : Int32) (cu : Int32) (it : Int32) (hok : MOk σ) : XMet l y_MO_has [cw_MO_has] rm_MO_has (XP D dA s0 σ [.ref (xB s0 + XA 15 0), .int v, .int cu, .int it]) (XQs D dA s0 xv_i (.inl (S_MO_has σ v cu it))) 0 0 (xAm s0) := by
  refine XMet.ofW (cc := b_MO_has) (maxL := 4) (ret := (some .int)) (by decide) rfl ?_
  intro p e s m args below meth c s₁ Bd hml hvA
  obtain ⟨rfl, hX, hO⟩ := hvA
  have hx := Bd.exec
  have hb := Bd.bytes
  have hr := Bd.returns
  have hown : s.vm.findClass "LoadChecksModel" = some m.cls := findClass_of_methodNamed Bd.named
  have hlocks := Bd.notSynchronized
  have hnt : c.exceptionTable.isEmpty = true := Bd.noHandlers (atoms_spec (ws := [cw_MO_has]) Bd.pre _ List.mem_cons_self)
  have hW0 := hO.1
  have hts := xs_w (args := ([.ref (xB s0 + XA 15 0), .int v, .int cu, .int it] : List Value).toArray) h0 hW0
  have hK := xs_K h0 hW0
  have hS := xo_S0 hO
  have hl := lv_entry ([.ref (xB s0 + XA 15 0), .int v, .int cu, .int it]) (n := 4) (Nat.le_of_ble_eq_true rfl)
  rw [lg_entry_eq]
  generalize (lg_sl ([.ref (xB s0 + XA 15 0), .int v, .int cu, .int it]) ++ List.replicate (4 - (lg_sl ([.ref (xB s0 + XA 15 0), .int v, .int cu, .int it])).length) Slot.unset).toArray = ls at hl ⊢
  have hl : lv_has ls 4 [(0, .ref (xB s0 + XA 15 0)), (1, .int v), (2, .int cu), (3, .int it)] := hl
  generalize hR : S_MO_has σ v cu it = res
  unfold S_MO_has at hR
  refine lv_aload_n hx hb d_MO_has_0 rfl (lv_at hl 0 rfl) ?_
  refine lv_aload_n hx hb d_MO_has_1 rfl (lv_at hl 0 rfl) ?_
  refine lv_iload_n hx hb d_MO_has_2 rfl (lv_at hl 1 rfl) ?_
  refine lv_iload_n hx hb d_MO_has_3 rfl (lv_at hl 2 rfl) ?_
  refine lv_iload_n hx hb d_MO_has_4 rfl (lv_at hl 3 rfl) ?_
  obtain ⟨cB5, hcB5, hoB5, hkB5⟩ := xw_recv (r := 15) (i := 0) hK hX (by decide) rfl rfl
  refine xc_f (rest := [.ref (xB s0 + XA 15 0)]) (x_invV (argsL := [.int v, .int cu, .int it]) hx hb hown (hts _ w_718) (hts _ w_720) (hts _ w_24) (x_code (hts _ w_721)) ⟨by decide, by decide⟩ hcB5 hoB5 hkB5 rfl rfl rfl d_MO_has_5) (c_MO_isThing h0 σ v cu it) (xs_cw h0 hW0 m_721) (hts _ w_38) ⟨rfl, rfl, Nat.le_of_ble_eq_true rfl, Nat.le_of_ble_eq_true rfl⟩ (hl.1.trans hml.symm) (by rw [hb]; exact d_MO_has_5) (Nat.le_of_ble_eq_true rfl) ⟨Nat.le_of_ble_eq_true rfl, Nat.le_of_ble_eq_true rfl⟩ hX ⟨hW0, xo_S hS⟩ ?_
  refine lv_if_ne (tgt := 15) hx hb d_MO_has_8 (by decide) (fun c8 => ?_) (fun c8 => ?_)
  · rw [if_neg c8] at hR
    refine lv_iconst (v := 0) hx hb d_MO_has_15 (by decide) ?_
    refine lv_iconst (v := 0) hx hb d_MO_has_16 (by decide) ?_
    refine lv_iconst (v := 0) hx hb d_MO_has_17 (by decide) ?_
    refine lv_iconst (v := 0) hx hb d_MO_has_18 (by decide) ?_
    obtain ⟨cB19, hcB19, hoB19, hkB19⟩ := xw_recv (r := 15) (i := 0) hK hX (by decide) rfl rfl
    refine xc_s (rest := []) (x_invV (argsL := [.int (0 : Int32), .int (0 : Int32), .int (0 : Int32), .int (0 : Int32)]) hx hb hown (hts _ w_671) (hts _ w_673) (hts _ w_20) (x_code (hts _ w_674)) ⟨by decide, by decide⟩ hcB19 hoB19 hkB19 rfl rfl rfl d_MO_has_19) (c_MO_throwing h0 σ (0 : Int32) (0 : Int32) (0 : Int32) (0 : Int32)) (xs_cw h0 hW0 m_674) (hts _ w_38) ⟨rfl, rfl, Nat.le_of_ble_eq_true rfl, Nat.le_of_ble_eq_true rfl⟩ (hl.1.trans hml.symm) (by rw [hb]; exact d_MO_has_19) (Nat.le_of_ble_eq_true rfl) ⟨Nat.le_of_ble_eq_true rfl, Nat.le_of_ble_eq_true rfl⟩ hX hW0 hS (fun v19 σ19 H locs hM19 hX hS => ?_) (fun E x H1 locs1 hM => by cases hM)
    obtain ⟨ev19, es19⟩ := x_inl hM19
    subst es19
    subst ev19
    refine lv_if_eq (tgt := 27) hx hb d_MO_has_22 (by decide) (fun c22 => ?_) (fun c22 => ?_)
    · refine lv_aload_n hx hb d_MO_has_27 rfl (lv_at hl 0 rfl) ?_
      refine xw_get (C := R_MO) (T := F_MO) (N := 20) (r := 15) (i := 0) hx hb hts hi_MO hown hK hX (by decide) rfl rfl 16 (by decide) (hts _ w_611) rfl rfl d_MO_has_28 ?_
      refine lv_sipush (v := 240) hx hb d_MO_has_31 (by decide) ?_
      refine lv_iload_n hx hb d_MO_has_34 rfl (lv_at hl 1 rfl) ?_
      refine lv_imul hx hb d_MO_has_35 ?_
      refine lv_bipush (v := 30) hx hb d_MO_has_36 (by decide) ?_
      refine lv_iload_n hx hb d_MO_has_38 rfl (lv_at hl 2 rfl) ?_
      refine lv_imul hx hb d_MO_has_39 ?_
      refine lv_iadd hx hb d_MO_has_40 ?_
      refine lv_iload_n hx hb d_MO_has_41 rfl (lv_at hl 3 rfl) ?_
      refine lv_iadd hx hb d_MO_has_42 ?_
      refine xw_iald (r := 28) (i := 0) hx hb hK hX (by decide) 0 rfl rfl (j := ((((240 : Int32) * v) + ((30 : Int32) * cu)) + it)) (o_c3 (m_thv hok c8) (m_thc c8) (m_thi c8)) d_MO_has_43 ?_
      subst hR
      refine W.widen (k := 0) (n := 0) (by decide) (by decide) ?_; exact xs_i hx hb hr hlocks hX hS d_MO_has_44
    · exact absurd thr_z c22
  · rw [if_pos c8] at hR
    refine lv_iconst (v := 1) hx hb d_MO_has_11 (by decide) ?_
    refine lv_goto (tgt := 16) hx hb d_MO_has_12 (by decide) ?_
    refine lv_iconst (v := 0) hx hb d_MO_has_16 (by decide) ?_
    refine lv_iconst (v := 0) hx hb d_MO_has_17 (by decide) ?_
    refine lv_iconst (v := 0) hx hb d_MO_has_18 (by decide) ?_
    obtain ⟨cB19, hcB19, hoB19, hkB19⟩ := xw_recv (r := 15) (i := 0) hK hX (by decide) rfl rfl
    refine xc_s (rest := []) (x_invV (argsL := [.int (1 : Int32), .int (0 : Int32), .int (0 : Int32), .int (0 : Int32)]) hx hb hown (hts _ w_671) (hts _ w_673) (hts _ w_20) (x_code (hts _ w_674)) ⟨by decide, by decide⟩ hcB19 hoB19 hkB19 rfl rfl rfl d_MO_has_19) (c_MO_throwing h0 σ (1 : Int32) (0 : Int32) (0 : Int32) (0 : Int32)) (xs_cw h0 hW0 m_674) (hts _ w_38) ⟨rfl, rfl, Nat.le_of_ble_eq_true rfl, Nat.le_of_ble_eq_true rfl⟩ (hl.1.trans hml.symm) (by rw [hb]; exact d_MO_has_19) (Nat.le_of_ble_eq_true rfl) ⟨Nat.le_of_ble_eq_true rfl, Nat.le_of_ble_eq_true rfl⟩ hX hW0 hS (fun v19 σ19 H locs hM19 hX hS => ?_) (fun E x H1 locs1 hM => by cases hM)
    obtain ⟨ev19, es19⟩ := x_inl hM19
    subst es19
    subst ev19
    refine lv_if_eq (tgt := 27) hx hb d_MO_has_22 (by decide) (fun c22 => ?_) (fun c22 => ?_)
    · exact absurd c22 (thr_n1 (by decide))
    · refine lv_iconst (v := 0) hx hb d_MO_has_25 (by decide) ?_
      subst hR
      refine W.widen (k := 0) (n := 0) (by decide) (by decide) ?_; exact xs_i hx hb hr hlocks hX hS d_MO_has_26

abbrev rm_MO_stocked : Room := { frames := 2, cells := 0, slots := 0, locals := 42 }
def S_MO_stocked (σ : XS) (it : Int32) : Int32 × XS := (if (S_MO_isItem σ it) = 0 then ((0 : Int32), (S_MO_throwing σ (1 : Int32) (0 : Int32) (0 : Int32) (0 : Int32)).2) else ((((S_MO_throwing σ (0 : Int32) (0 : Int32) (0 : Int32) (0 : Int32)).2).1 18 0 it.toNatClampNeg), (S_MO_throwing σ (0 : Int32) (0 : Int32) (0 : Int32) (0 : Int32)).2))
set_option maxHeartbeats 4000000 in
set_option maxRecDepth 100000 in
theorem c_MO_stocked {l : Launch} {s0 : State} {A0 : Array Value} {D : va_G} {dA : Nat → ClassId} (h0 : XS0 l s0 A0 D dA) (σ : XS) (it : Int32)  : XMet l y_MO_stocked [cw_MO_stocked] rm_MO_stocked (XP D dA s0 σ [.ref (xB s0 + XA 15 0), .int it]) (XQs D dA s0 xv_i (.inl (S_MO_stocked σ it))) 0 0 (xAm s0) := by
  refine XMet.ofW (cc := b_MO_stocked) (maxL := 2) (ret := (some .int)) (by decide) rfl ?_
  intro p e s m args below meth c s₁ Bd hml hvA
  obtain ⟨rfl, hX, hO⟩ := hvA
  have hx := Bd.exec
  have hb := Bd.bytes
  have hr := Bd.returns
  have hown : s.vm.findClass "LoadChecksModel" = some m.cls := findClass_of_methodNamed Bd.named
  have hlocks := Bd.notSynchronized
  have hnt : c.exceptionTable.isEmpty = true := Bd.noHandlers (atoms_spec (ws := [cw_MO_stocked]) Bd.pre _ List.mem_cons_self)
  have hW0 := hO.1
  have hts := xs_w (args := ([.ref (xB s0 + XA 15 0), .int it] : List Value).toArray) h0 hW0
  have hK := xs_K h0 hW0
  have hS := xo_S0 hO
  have hl := lv_entry ([.ref (xB s0 + XA 15 0), .int it]) (n := 2) (Nat.le_of_ble_eq_true rfl)
  rw [lg_entry_eq]
  generalize (lg_sl ([.ref (xB s0 + XA 15 0), .int it]) ++ List.replicate (2 - (lg_sl ([.ref (xB s0 + XA 15 0), .int it])).length) Slot.unset).toArray = ls at hl ⊢
  have hl : lv_has ls 2 [(0, .ref (xB s0 + XA 15 0)), (1, .int it)] := hl
  generalize hR : S_MO_stocked σ it = res
  unfold S_MO_stocked at hR
  refine lv_aload_n hx hb d_MO_stocked_0 rfl (lv_at hl 0 rfl) ?_
  refine lv_iload_n hx hb d_MO_stocked_1 rfl (lv_at hl 1 rfl) ?_
  refine xc_f (rest := [.ref (xB s0 + XA 15 0)]) (x_invS (argsL := [.int it]) hx hb hown (hts _ w_698) (hts _ w_699) (hts _ w_38) (x_code (hts _ w_700)) ⟨by decide, by decide⟩ rfl rfl rfl d_MO_stocked_2) (c_MO_isItem h0 σ it) (xs_cw h0 hW0 m_700) (hts _ w_38) ⟨rfl, rfl, Nat.le_of_ble_eq_true rfl, Nat.le_of_ble_eq_true rfl⟩ (hl.1.trans hml.symm) (by rw [hb]; exact d_MO_stocked_2) (Nat.le_of_ble_eq_true rfl) ⟨Nat.le_of_ble_eq_true rfl, Nat.le_of_ble_eq_true rfl⟩ hX ⟨hW0, xo_S hS⟩ ?_
  refine lv_if_ne (tgt := 12) hx hb d_MO_stocked_5 (by decide) (fun c5 => ?_) (fun c5 => ?_)
  · rw [if_neg c5] at hR
    refine lv_iconst (v := 0) hx hb d_MO_stocked_12 (by decide) ?_
    refine lv_iconst (v := 0) hx hb d_MO_stocked_13 (by decide) ?_
    refine lv_iconst (v := 0) hx hb d_MO_stocked_14 (by decide) ?_
    refine lv_iconst (v := 0) hx hb d_MO_stocked_15 (by decide) ?_
    obtain ⟨cB16, hcB16, hoB16, hkB16⟩ := xw_recv (r := 15) (i := 0) hK hX (by decide) rfl rfl
    refine xc_s (rest := []) (x_invV (argsL := [.int (0 : Int32), .int (0 : Int32), .int (0 : Int32), .int (0 : Int32)]) hx hb hown (hts _ w_671) (hts _ w_673) (hts _ w_20) (x_code (hts _ w_674)) ⟨by decide, by decide⟩ hcB16 hoB16 hkB16 rfl rfl rfl d_MO_stocked_16) (c_MO_throwing h0 σ (0 : Int32) (0 : Int32) (0 : Int32) (0 : Int32)) (xs_cw h0 hW0 m_674) (hts _ w_38) ⟨rfl, rfl, Nat.le_of_ble_eq_true rfl, Nat.le_of_ble_eq_true rfl⟩ (hl.1.trans hml.symm) (by rw [hb]; exact d_MO_stocked_16) (Nat.le_of_ble_eq_true rfl) ⟨Nat.le_of_ble_eq_true rfl, Nat.le_of_ble_eq_true rfl⟩ hX hW0 hS (fun v16 σ16 H locs hM16 hX hS => ?_) (fun E x H1 locs1 hM => by cases hM)
    obtain ⟨ev16, es16⟩ := x_inl hM16
    subst es16
    subst ev16
    refine lv_if_eq (tgt := 24) hx hb d_MO_stocked_19 (by decide) (fun c19 => ?_) (fun c19 => ?_)
    · refine lv_aload_n hx hb d_MO_stocked_24 rfl (lv_at hl 0 rfl) ?_
      refine xw_get (C := R_MO) (T := F_MO) (N := 20) (r := 15) (i := 0) hx hb hts hi_MO hown hK hX (by decide) rfl rfl 5 (by decide) (hts _ w_600) rfl rfl d_MO_stocked_25 ?_
      refine lv_iload_n hx hb d_MO_stocked_28 rfl (lv_at hl 1 rfl) ?_
      refine xw_iald (r := 18) (i := 0) hx hb hK hX (by decide) 0 rfl rfl (j := it) (m_item c5) d_MO_stocked_29 ?_
      subst hR
      refine W.widen (k := 0) (n := 0) (by decide) (by decide) ?_; exact xs_i hx hb hr hlocks hX hS d_MO_stocked_30
    · exact absurd thr_z c19
  · rw [if_pos c5] at hR
    refine lv_iconst (v := 1) hx hb d_MO_stocked_8 (by decide) ?_
    refine lv_goto (tgt := 13) hx hb d_MO_stocked_9 (by decide) ?_
    refine lv_iconst (v := 0) hx hb d_MO_stocked_13 (by decide) ?_
    refine lv_iconst (v := 0) hx hb d_MO_stocked_14 (by decide) ?_
    refine lv_iconst (v := 0) hx hb d_MO_stocked_15 (by decide) ?_
    obtain ⟨cB16, hcB16, hoB16, hkB16⟩ := xw_recv (r := 15) (i := 0) hK hX (by decide) rfl rfl
    refine xc_s (rest := []) (x_invV (argsL := [.int (1 : Int32), .int (0 : Int32), .int (0 : Int32), .int (0 : Int32)]) hx hb hown (hts _ w_671) (hts _ w_673) (hts _ w_20) (x_code (hts _ w_674)) ⟨by decide, by decide⟩ hcB16 hoB16 hkB16 rfl rfl rfl d_MO_stocked_16) (c_MO_throwing h0 σ (1 : Int32) (0 : Int32) (0 : Int32) (0 : Int32)) (xs_cw h0 hW0 m_674) (hts _ w_38) ⟨rfl, rfl, Nat.le_of_ble_eq_true rfl, Nat.le_of_ble_eq_true rfl⟩ (hl.1.trans hml.symm) (by rw [hb]; exact d_MO_stocked_16) (Nat.le_of_ble_eq_true rfl) ⟨Nat.le_of_ble_eq_true rfl, Nat.le_of_ble_eq_true rfl⟩ hX hW0 hS (fun v16 σ16 H locs hM16 hX hS => ?_) (fun E x H1 locs1 hM => by cases hM)
    obtain ⟨ev16, es16⟩ := x_inl hM16
    subst es16
    subst ev16
    refine lv_if_eq (tgt := 24) hx hb d_MO_stocked_19 (by decide) (fun c19 => ?_) (fun c19 => ?_)
    · exact absurd c19 (thr_n1 (by decide))
    · refine lv_iconst (v := 0) hx hb d_MO_stocked_22 (by decide) ?_
      subst hR
      refine W.widen (k := 0) (n := 0) (by decide) (by decide) ?_; exact xs_i hx hb hr hlocks hX hS d_MO_stocked_23
