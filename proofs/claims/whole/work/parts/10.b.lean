abbrev rm_VE_bears : Room := { frames := 1, cells := 0, slots := 0, locals := 23 }
def S_VE_bears (σ : XS) (i : Nat) (cell : Int32) (n : Int32) (w : Int32) : Int32 := (if (lg_cmp (((w.toInt64 * n.toInt64) * (σ.1 9 i 6).toInt64) - ((w.toInt64 * n.toInt64) * (σ.1 10 i (cell / (30 : Int32)).toNatClampNeg).toInt64)) (0 : Int64)) ≤ 0 then (if (lg_cmp ((w.toInt64 * n.toInt64) * (σ.1 10 i (cell / (30 : Int32)).toNatClampNeg).toInt64) (0 : Int64)) ≤ 0 then (1 : Int32) else (if (S_VE_exceeds σ i ((S_VE_rearMoment σ i) + ((w.toInt64 * n.toInt64) * (σ.1 10 i (cell / (30 : Int32)).toNatClampNeg).toInt64)) (σ.1 9 i 8)) = 0 then (1 : Int32) else (0 : Int32))) else (if (S_VE_exceeds σ i ((S_VE_frontMoment σ i) + (((w.toInt64 * n.toInt64) * (σ.1 9 i 6).toInt64) - ((w.toInt64 * n.toInt64) * (σ.1 10 i (cell / (30 : Int32)).toNatClampNeg).toInt64))) (σ.1 9 i 7)) = 0 then (if (lg_cmp ((w.toInt64 * n.toInt64) * (σ.1 10 i (cell / (30 : Int32)).toNatClampNeg).toInt64) (0 : Int64)) ≤ 0 then (1 : Int32) else (if (S_VE_exceeds σ i ((S_VE_rearMoment σ i) + ((w.toInt64 * n.toInt64) * (σ.1 10 i (cell / (30 : Int32)).toNatClampNeg).toInt64)) (σ.1 9 i 8)) = 0 then (1 : Int32) else (0 : Int32))) else (if (lg_cmp ((w.toInt64 * n.toInt64) * (σ.1 10 i (cell / (30 : Int32)).toNatClampNeg).toInt64) (0 : Int64)) ≤ 0 then (0 : Int32) else (if (S_VE_exceeds σ i ((S_VE_rearMoment σ i) + ((w.toInt64 * n.toInt64) * (σ.1 10 i (cell / (30 : Int32)).toNatClampNeg).toInt64)) (σ.1 9 i 8)) = 0 then (0 : Int32) else (0 : Int32)))))
set_option maxHeartbeats 4000000 in
set_option maxRecDepth 100000 in
theorem c_VE_bears {l : Launch} {s0 : State} {A0 : Array Value} {D : va_G} {dA : Nat → ClassId} (h0 : XS0 l s0 A0 D dA) (σ : XS) (i : Nat) (cell : Int32) (n : Int32) (w : Int32) (hi_i : i < 16) (hc : vp_in cell 240) : XMet l y_VE_bears [cw_VE_bears] rm_VE_bears (XP D dA s0 σ [.ref (xB s0 + XA 9 i), .int cell, .int n, .int w]) (XQp xv_i (.inl (S_VE_bears σ i cell n w))) 0 0 (fun _ => False) := by
  refine XMet.ofW (cc := b_VE_bears) (maxL := 12) (ret := (some .boolean)) (by decide) rfl ?_
  intro p e s m args below meth c s₁ Bd hml hvA
  obtain ⟨rfl, hX, hO⟩ := hvA
  have hx := Bd.exec
  have hb := Bd.bytes
  have hr := Bd.returns
  have hown : s.vm.findClass "LoadChecks$Vehicle" = some m.cls := findClass_of_methodNamed Bd.named
  have hlocks := Bd.notSynchronized
  have hnt : c.exceptionTable.isEmpty = true := Bd.noHandlers (atoms_spec (ws := [cw_VE_bears]) Bd.pre _ List.mem_cons_self)
  have hW0 := hO.1
  have hts := xs_w (args := ([.ref (xB s0 + XA 9 i), .int cell, .int n, .int w] : List Value).toArray) h0 hW0
  have hK := xs_K h0 hW0
  have hl := lv_entry ([.ref (xB s0 + XA 9 i), .int cell, .int n, .int w]) (n := 12) (Nat.le_of_ble_eq_true rfl)
  rw [lg_entry_eq]
  generalize (lg_sl ([.ref (xB s0 + XA 9 i), .int cell, .int n, .int w]) ++ List.replicate (12 - (lg_sl ([.ref (xB s0 + XA 9 i), .int cell, .int n, .int w])).length) Slot.unset).toArray = ls at hl ⊢
  have hl : lv_has ls 12 [(0, .ref (xB s0 + XA 9 i)), (1, .int cell), (2, .int n), (3, .int w)] := hl
  generalize hR : S_VE_bears σ i cell n w = res
  unfold S_VE_bears at hR
  refine lv_iload_n hx hb d_VE_bears_0 rfl (lv_at hl 3 rfl) ?_
  refine lv_i2l hx hb d_VE_bears_1 rfl ?_
  refine lv_iload_n hx hb d_VE_bears_2 rfl (lv_at hl 2 rfl) ?_
  refine lv_i2l hx hb d_VE_bears_3 rfl ?_
  refine lv_lmul hx hb d_VE_bears_4 ?_
  refine lv_lstore (lv' := [(4, .long (w.toInt64 * n.toInt64)), (0, .ref (xB s0 + XA 9 i)), (1, .int cell), (2, .int n), (3, .int w)]) hx hb d_VE_bears_5 hl (by decide) rfl (fun ls hl => ?_)
  refine lv_lload hx hb d_VE_bears_7 (lv_at hl 0 rfl) ?_
  refine lv_aload_n hx hb d_VE_bears_9 rfl (lv_at hl 1 rfl) ?_
  refine xw_get (C := R_VE) (T := F_VE) (N := 13) (r := 9) (i := i) hx hb hts hi_VE hown hK hX hi_i rfl rfl 0 (by decide) (hts _ w_82) rfl rfl d_VE_bears_10 ?_
  refine lv_iload_n hx hb d_VE_bears_13 rfl (lv_at hl 2 rfl) ?_
  refine lv_bipush (v := 30) hx hb d_VE_bears_14 (by decide) ?_
  refine lv_idiv hx hb d_VE_bears_16 (by decide) ?_
  refine xw_iald (r := 10) (i := i) hx hb hK hX hi_i 0 rfl rfl (j := (cell / (30 : Int32))) (o_div hc) d_VE_bears_17 ?_
  refine lv_i2l hx hb d_VE_bears_18 rfl ?_
  refine lv_lmul hx hb d_VE_bears_19 ?_
  refine lv_lstore (lv' := [(6, .long ((w.toInt64 * n.toInt64) * (σ.1 10 i (cell / (30 : Int32)).toNatClampNeg).toInt64)), (4, .long (w.toInt64 * n.toInt64)), (0, .ref (xB s0 + XA 9 i)), (1, .int cell), (2, .int n), (3, .int w)]) hx hb d_VE_bears_20 hl (by decide) rfl (fun ls hl => ?_)
  refine lv_lload hx hb d_VE_bears_22 (lv_at hl 1 rfl) ?_
  refine lv_aload_n hx hb d_VE_bears_24 rfl (lv_at hl 2 rfl) ?_
  refine xw_get (C := R_VE) (T := F_VE) (N := 13) (r := 9) (i := i) hx hb hts hi_VE hown hK hX hi_i rfl rfl 6 (by decide) (hts _ w_93) rfl rfl d_VE_bears_25 ?_
  refine lv_i2l hx hb d_VE_bears_28 rfl ?_
  refine lv_lmul hx hb d_VE_bears_29 ?_
  refine lv_lload hx hb d_VE_bears_30 (lv_at hl 0 rfl) ?_
  refine lv_lsub hx hb d_VE_bears_32 ?_
  refine lv_lstore (lv' := [(8, .long (((w.toInt64 * n.toInt64) * (σ.1 9 i 6).toInt64) - ((w.toInt64 * n.toInt64) * (σ.1 10 i (cell / (30 : Int32)).toNatClampNeg).toInt64))), (6, .long ((w.toInt64 * n.toInt64) * (σ.1 10 i (cell / (30 : Int32)).toNatClampNeg).toInt64)), (4, .long (w.toInt64 * n.toInt64)), (0, .ref (xB s0 + XA 9 i)), (1, .int cell), (2, .int n), (3, .int w)]) hx hb d_VE_bears_33 hl (by decide) rfl (fun ls hl => ?_)
  refine lv_lload hx hb d_VE_bears_35 (lv_at hl 0 rfl) ?_
  refine lv_lconst (v := 0) hx hb d_VE_bears_37 (by decide) ?_
  refine W.lcmp hx hb d_VE_bears_38 ?_
  refine lv_if_le (tgt := 64) hx hb d_VE_bears_39 (by decide) (fun c39 => ?_) (fun c39 => ?_)
  · rw [if_pos c39] at hR
    refine lv_iconst (v := 0) hx hb d_VE_bears_64 (by decide) ?_
    refine lv_istore (lv' := [(10, .int (0 : Int32)), (8, .long (((w.toInt64 * n.toInt64) * (σ.1 9 i 6).toInt64) - ((w.toInt64 * n.toInt64) * (σ.1 10 i (cell / (30 : Int32)).toNatClampNeg).toInt64))), (6, .long ((w.toInt64 * n.toInt64) * (σ.1 10 i (cell / (30 : Int32)).toNatClampNeg).toInt64)), (4, .long (w.toInt64 * n.toInt64)), (0, .ref (xB s0 + XA 9 i)), (1, .int cell), (2, .int n), (3, .int w)]) hx hb d_VE_bears_65 hl (by decide) rfl (fun ls hl => ?_)
    refine lv_lload hx hb d_VE_bears_67 (lv_at hl 2 rfl) ?_
    refine lv_lconst (v := 0) hx hb d_VE_bears_69 (by decide) ?_
    refine W.lcmp hx hb d_VE_bears_70 ?_
    refine lv_if_le (tgt := 96) hx hb d_VE_bears_71 (by decide) (fun c71 => ?_) (fun c71 => ?_)
    · rw [if_pos c71] at hR
      refine lv_iconst (v := 0) hx hb d_VE_bears_96 (by decide) ?_
      refine lv_istore (lv' := [(11, .int (0 : Int32)), (10, .int (0 : Int32)), (8, .long (((w.toInt64 * n.toInt64) * (σ.1 9 i 6).toInt64) - ((w.toInt64 * n.toInt64) * (σ.1 10 i (cell / (30 : Int32)).toNatClampNeg).toInt64))), (6, .long ((w.toInt64 * n.toInt64) * (σ.1 10 i (cell / (30 : Int32)).toNatClampNeg).toInt64)), (4, .long (w.toInt64 * n.toInt64)), (0, .ref (xB s0 + XA 9 i)), (1, .int cell), (2, .int n), (3, .int w)]) hx hb d_VE_bears_97 hl (by decide) rfl (fun ls hl => ?_)
      refine lv_iload hx hb d_VE_bears_99 (lv_at hl 1 rfl) ?_
      refine lv_if_ne (tgt := 113) hx hb d_VE_bears_101 (by decide) (fun c101 => ?_) (fun c101 => ?_)
      · exact absurd (by decide) c101
      · refine lv_iload hx hb d_VE_bears_104 (lv_at hl 0 rfl) ?_
        refine lv_if_ne (tgt := 113) hx hb d_VE_bears_106 (by decide) (fun c106 => ?_) (fun c106 => ?_)
        · exact absurd (by decide) c106
        · refine lv_iconst (v := 1) hx hb d_VE_bears_109 (by decide) ?_
          refine lv_goto (tgt := 114) hx hb d_VE_bears_110 (by decide) ?_
          subst hR
          refine W.widen (k := 0) (n := 0) (by decide) (by decide) ?_; exact xr_z hx hb hr hlocks (by rfl) d_VE_bears_114
    · rw [if_neg c71] at hR
      refine lv_aload_n hx hb d_VE_bears_74 rfl (lv_at hl 4 rfl) ?_
      refine lv_aload_n hx hb d_VE_bears_75 rfl (lv_at hl 4 rfl) ?_
      obtain ⟨cB76, hcB76, hoB76, hkB76⟩ := xw_recv (r := 9) (i := i) hK hX hi_i rfl rfl
      refine xc_f (rest := [.ref (xB s0 + XA 9 i)]) (x_invV (argsL := []) hx hb hown (hts _ w_390) (hts _ w_392) (hts _ w_9) (x_code (hts _ w_393)) ⟨by decide, by decide⟩ hcB76 hoB76 hkB76 rfl rfl rfl d_VE_bears_76) (c_VE_rearMoment h0 σ i hi_i) (xs_cw h0 hW0 m_393) (hts _ w_36) ⟨rfl, rfl, Nat.le_of_ble_eq_true rfl, Nat.le_of_ble_eq_true rfl⟩ (hl.1.trans hml.symm) (by rw [hb]; exact d_VE_bears_76) (Nat.le_of_ble_eq_true rfl) ⟨Nat.le_of_ble_eq_true rfl, Nat.le_of_ble_eq_true rfl⟩ hX hO ?_
      refine lv_lload hx hb d_VE_bears_79 (lv_at hl 2 rfl) ?_
      refine lv_ladd hx hb d_VE_bears_81 ?_
      refine lv_aload_n hx hb d_VE_bears_82 rfl (lv_at hl 4 rfl) ?_
      refine xw_get (C := R_VE) (T := F_VE) (N := 13) (r := 9) (i := i) hx hb hts hi_VE hown hK hX hi_i rfl rfl 8 (by decide) (hts _ w_98) rfl rfl d_VE_bears_83 ?_
      obtain ⟨cB86, hcB86, hoB86, hkB86⟩ := xw_recv (r := 9) (i := i) hK hX hi_i rfl rfl
      refine xc_f (rest := []) (x_invV (argsL := [.long ((S_VE_rearMoment σ i) + ((w.toInt64 * n.toInt64) * (σ.1 10 i (cell / (30 : Int32)).toNatClampNeg).toInt64)), .int (σ.1 9 i 8)]) hx hb hown (hts _ w_386) (hts _ w_388) (hts _ w_8) (x_code (hts _ w_389)) ⟨by decide, by decide⟩ hcB86 hoB86 hkB86 rfl rfl rfl d_VE_bears_86) (c_VE_exceeds h0 σ i ((S_VE_rearMoment σ i) + ((w.toInt64 * n.toInt64) * (σ.1 10 i (cell / (30 : Int32)).toNatClampNeg).toInt64)) (σ.1 9 i 8) hi_i) (xs_cw h0 hW0 m_389) (hts _ w_36) ⟨rfl, rfl, Nat.le_of_ble_eq_true rfl, Nat.le_of_ble_eq_true rfl⟩ (hl.1.trans hml.symm) (by rw [hb]; exact d_VE_bears_86) (Nat.le_of_ble_eq_true rfl) ⟨Nat.le_of_ble_eq_true rfl, Nat.le_of_ble_eq_true rfl⟩ hX hO ?_
      refine lv_if_eq (tgt := 96) hx hb d_VE_bears_89 (by decide) (fun c89 => ?_) (fun c89 => ?_)
      · rw [if_pos c89] at hR
        refine lv_iconst (v := 0) hx hb d_VE_bears_96 (by decide) ?_
        refine lv_istore (lv' := [(11, .int (0 : Int32)), (10, .int (0 : Int32)), (8, .long (((w.toInt64 * n.toInt64) * (σ.1 9 i 6).toInt64) - ((w.toInt64 * n.toInt64) * (σ.1 10 i (cell / (30 : Int32)).toNatClampNeg).toInt64))), (6, .long ((w.toInt64 * n.toInt64) * (σ.1 10 i (cell / (30 : Int32)).toNatClampNeg).toInt64)), (4, .long (w.toInt64 * n.toInt64)), (0, .ref (xB s0 + XA 9 i)), (1, .int cell), (2, .int n), (3, .int w)]) hx hb d_VE_bears_97 hl (by decide) rfl (fun ls hl => ?_)
        refine lv_iload hx hb d_VE_bears_99 (lv_at hl 1 rfl) ?_
        refine lv_if_ne (tgt := 113) hx hb d_VE_bears_101 (by decide) (fun c101 => ?_) (fun c101 => ?_)
        · exact absurd (by decide) c101
        · refine lv_iload hx hb d_VE_bears_104 (lv_at hl 0 rfl) ?_
          refine lv_if_ne (tgt := 113) hx hb d_VE_bears_106 (by decide) (fun c106 => ?_) (fun c106 => ?_)
          · exact absurd (by decide) c106
          · refine lv_iconst (v := 1) hx hb d_VE_bears_109 (by decide) ?_
            refine lv_goto (tgt := 114) hx hb d_VE_bears_110 (by decide) ?_
            subst hR
            refine W.widen (k := 0) (n := 0) (by decide) (by decide) ?_; exact xr_z hx hb hr hlocks (by rfl) d_VE_bears_114
      · rw [if_neg c89] at hR
        refine lv_iconst (v := 1) hx hb d_VE_bears_92 (by decide) ?_
        refine lv_goto (tgt := 97) hx hb d_VE_bears_93 (by decide) ?_
        refine lv_istore (lv' := [(11, .int (1 : Int32)), (10, .int (0 : Int32)), (8, .long (((w.toInt64 * n.toInt64) * (σ.1 9 i 6).toInt64) - ((w.toInt64 * n.toInt64) * (σ.1 10 i (cell / (30 : Int32)).toNatClampNeg).toInt64))), (6, .long ((w.toInt64 * n.toInt64) * (σ.1 10 i (cell / (30 : Int32)).toNatClampNeg).toInt64)), (4, .long (w.toInt64 * n.toInt64)), (0, .ref (xB s0 + XA 9 i)), (1, .int cell), (2, .int n), (3, .int w)]) hx hb d_VE_bears_97 hl (by decide) rfl (fun ls hl => ?_)
        refine lv_iload hx hb d_VE_bears_99 (lv_at hl 1 rfl) ?_
        refine lv_if_ne (tgt := 113) hx hb d_VE_bears_101 (by decide) (fun c101 => ?_) (fun c101 => ?_)
        · exact absurd (by decide) c101
        · refine lv_iload hx hb d_VE_bears_104 (lv_at hl 0 rfl) ?_
          refine lv_if_ne (tgt := 113) hx hb d_VE_bears_106 (by decide) (fun c106 => ?_) (fun c106 => ?_)
          · refine lv_iconst (v := 0) hx hb d_VE_bears_113 (by decide) ?_
            subst hR
            refine W.widen (k := 0) (n := 0) (by decide) (by decide) ?_; exact xr_z hx hb hr hlocks (by rfl) d_VE_bears_114
          · exact absurd c106 (by decide)
  · rw [if_neg c39] at hR
    refine lv_aload_n hx hb d_VE_bears_42 rfl (lv_at hl 3 rfl) ?_
    refine lv_aload_n hx hb d_VE_bears_43 rfl (lv_at hl 3 rfl) ?_
    obtain ⟨cB44, hcB44, hoB44, hkB44⟩ := xw_recv (r := 9) (i := i) hK hX hi_i rfl rfl
    refine xc_f (rest := [.ref (xB s0 + XA 9 i)]) (x_invV (argsL := []) hx hb hown (hts _ w_382) (hts _ w_384) (hts _ w_7) (x_code (hts _ w_385)) ⟨by decide, by decide⟩ hcB44 hoB44 hkB44 rfl rfl rfl d_VE_bears_44) (c_VE_frontMoment h0 σ i hi_i) (xs_cw h0 hW0 m_385) (hts _ w_36) ⟨rfl, rfl, Nat.le_of_ble_eq_true rfl, Nat.le_of_ble_eq_true rfl⟩ (hl.1.trans hml.symm) (by rw [hb]; exact d_VE_bears_44) (Nat.le_of_ble_eq_true rfl) ⟨Nat.le_of_ble_eq_true rfl, Nat.le_of_ble_eq_true rfl⟩ hX hO ?_
    refine lv_lload hx hb d_VE_bears_47 (lv_at hl 0 rfl) ?_
    refine lv_ladd hx hb d_VE_bears_49 ?_
    refine lv_aload_n hx hb d_VE_bears_50 rfl (lv_at hl 3 rfl) ?_
    refine xw_get (C := R_VE) (T := F_VE) (N := 13) (r := 9) (i := i) hx hb hts hi_VE hown hK hX hi_i rfl rfl 7 (by decide) (hts _ w_96) rfl rfl d_VE_bears_51 ?_
    obtain ⟨cB54, hcB54, hoB54, hkB54⟩ := xw_recv (r := 9) (i := i) hK hX hi_i rfl rfl
    refine xc_f (rest := []) (x_invV (argsL := [.long ((S_VE_frontMoment σ i) + (((w.toInt64 * n.toInt64) * (σ.1 9 i 6).toInt64) - ((w.toInt64 * n.toInt64) * (σ.1 10 i (cell / (30 : Int32)).toNatClampNeg).toInt64))), .int (σ.1 9 i 7)]) hx hb hown (hts _ w_386) (hts _ w_388) (hts _ w_8) (x_code (hts _ w_389)) ⟨by decide, by decide⟩ hcB54 hoB54 hkB54 rfl rfl rfl d_VE_bears_54) (c_VE_exceeds h0 σ i ((S_VE_frontMoment σ i) + (((w.toInt64 * n.toInt64) * (σ.1 9 i 6).toInt64) - ((w.toInt64 * n.toInt64) * (σ.1 10 i (cell / (30 : Int32)).toNatClampNeg).toInt64))) (σ.1 9 i 7) hi_i) (xs_cw h0 hW0 m_389) (hts _ w_36) ⟨rfl, rfl, Nat.le_of_ble_eq_true rfl, Nat.le_of_ble_eq_true rfl⟩ (hl.1.trans hml.symm) (by rw [hb]; exact d_VE_bears_54) (Nat.le_of_ble_eq_true rfl) ⟨Nat.le_of_ble_eq_true rfl, Nat.le_of_ble_eq_true rfl⟩ hX hO ?_
    refine lv_if_eq (tgt := 64) hx hb d_VE_bears_57 (by decide) (fun c57 => ?_) (fun c57 => ?_)
    · rw [if_pos c57] at hR
      refine lv_iconst (v := 0) hx hb d_VE_bears_64 (by decide) ?_
      refine lv_istore (lv' := [(10, .int (0 : Int32)), (8, .long (((w.toInt64 * n.toInt64) * (σ.1 9 i 6).toInt64) - ((w.toInt64 * n.toInt64) * (σ.1 10 i (cell / (30 : Int32)).toNatClampNeg).toInt64))), (6, .long ((w.toInt64 * n.toInt64) * (σ.1 10 i (cell / (30 : Int32)).toNatClampNeg).toInt64)), (4, .long (w.toInt64 * n.toInt64)), (0, .ref (xB s0 + XA 9 i)), (1, .int cell), (2, .int n), (3, .int w)]) hx hb d_VE_bears_65 hl (by decide) rfl (fun ls hl => ?_)
      refine lv_lload hx hb d_VE_bears_67 (lv_at hl 2 rfl) ?_
      refine lv_lconst (v := 0) hx hb d_VE_bears_69 (by decide) ?_
      refine W.lcmp hx hb d_VE_bears_70 ?_
      refine lv_if_le (tgt := 96) hx hb d_VE_bears_71 (by decide) (fun c71 => ?_) (fun c71 => ?_)
      · rw [if_pos c71] at hR
        refine lv_iconst (v := 0) hx hb d_VE_bears_96 (by decide) ?_
        refine lv_istore (lv' := [(11, .int (0 : Int32)), (10, .int (0 : Int32)), (8, .long (((w.toInt64 * n.toInt64) * (σ.1 9 i 6).toInt64) - ((w.toInt64 * n.toInt64) * (σ.1 10 i (cell / (30 : Int32)).toNatClampNeg).toInt64))), (6, .long ((w.toInt64 * n.toInt64) * (σ.1 10 i (cell / (30 : Int32)).toNatClampNeg).toInt64)), (4, .long (w.toInt64 * n.toInt64)), (0, .ref (xB s0 + XA 9 i)), (1, .int cell), (2, .int n), (3, .int w)]) hx hb d_VE_bears_97 hl (by decide) rfl (fun ls hl => ?_)
        refine lv_iload hx hb d_VE_bears_99 (lv_at hl 1 rfl) ?_
        refine lv_if_ne (tgt := 113) hx hb d_VE_bears_101 (by decide) (fun c101 => ?_) (fun c101 => ?_)
        · exact absurd (by decide) c101
        · refine lv_iload hx hb d_VE_bears_104 (lv_at hl 0 rfl) ?_
          refine lv_if_ne (tgt := 113) hx hb d_VE_bears_106 (by decide) (fun c106 => ?_) (fun c106 => ?_)
          · exact absurd (by decide) c106
          · refine lv_iconst (v := 1) hx hb d_VE_bears_109 (by decide) ?_
            refine lv_goto (tgt := 114) hx hb d_VE_bears_110 (by decide) ?_
            subst hR
            refine W.widen (k := 0) (n := 0) (by decide) (by decide) ?_; exact xr_z hx hb hr hlocks (by rfl) d_VE_bears_114
      · rw [if_neg c71] at hR
        refine lv_aload_n hx hb d_VE_bears_74 rfl (lv_at hl 4 rfl) ?_
        refine lv_aload_n hx hb d_VE_bears_75 rfl (lv_at hl 4 rfl) ?_
        obtain ⟨cB76, hcB76, hoB76, hkB76⟩ := xw_recv (r := 9) (i := i) hK hX hi_i rfl rfl
        refine xc_f (rest := [.ref (xB s0 + XA 9 i)]) (x_invV (argsL := []) hx hb hown (hts _ w_390) (hts _ w_392) (hts _ w_9) (x_code (hts _ w_393)) ⟨by decide, by decide⟩ hcB76 hoB76 hkB76 rfl rfl rfl d_VE_bears_76) (c_VE_rearMoment h0 σ i hi_i) (xs_cw h0 hW0 m_393) (hts _ w_36) ⟨rfl, rfl, Nat.le_of_ble_eq_true rfl, Nat.le_of_ble_eq_true rfl⟩ (hl.1.trans hml.symm) (by rw [hb]; exact d_VE_bears_76) (Nat.le_of_ble_eq_true rfl) ⟨Nat.le_of_ble_eq_true rfl, Nat.le_of_ble_eq_true rfl⟩ hX hO ?_
        refine lv_lload hx hb d_VE_bears_79 (lv_at hl 2 rfl) ?_
        refine lv_ladd hx hb d_VE_bears_81 ?_
        refine lv_aload_n hx hb d_VE_bears_82 rfl (lv_at hl 4 rfl) ?_
        refine xw_get (C := R_VE) (T := F_VE) (N := 13) (r := 9) (i := i) hx hb hts hi_VE hown hK hX hi_i rfl rfl 8 (by decide) (hts _ w_98) rfl rfl d_VE_bears_83 ?_
        obtain ⟨cB86, hcB86, hoB86, hkB86⟩ := xw_recv (r := 9) (i := i) hK hX hi_i rfl rfl
        refine xc_f (rest := []) (x_invV (argsL := [.long ((S_VE_rearMoment σ i) + ((w.toInt64 * n.toInt64) * (σ.1 10 i (cell / (30 : Int32)).toNatClampNeg).toInt64)), .int (σ.1 9 i 8)]) hx hb hown (hts _ w_386) (hts _ w_388) (hts _ w_8) (x_code (hts _ w_389)) ⟨by decide, by decide⟩ hcB86 hoB86 hkB86 rfl rfl rfl d_VE_bears_86) (c_VE_exceeds h0 σ i ((S_VE_rearMoment σ i) + ((w.toInt64 * n.toInt64) * (σ.1 10 i (cell / (30 : Int32)).toNatClampNeg).toInt64)) (σ.1 9 i 8) hi_i) (xs_cw h0 hW0 m_389) (hts _ w_36) ⟨rfl, rfl, Nat.le_of_ble_eq_true rfl, Nat.le_of_ble_eq_true rfl⟩ (hl.1.trans hml.symm) (by rw [hb]; exact d_VE_bears_86) (Nat.le_of_ble_eq_true rfl) ⟨Nat.le_of_ble_eq_true rfl, Nat.le_of_ble_eq_true rfl⟩ hX hO ?_
        refine lv_if_eq (tgt := 96) hx hb d_VE_bears_89 (by decide) (fun c89 => ?_) (fun c89 => ?_)
        · rw [if_pos c89] at hR
          refine lv_iconst (v := 0) hx hb d_VE_bears_96 (by decide) ?_
          refine lv_istore (lv' := [(11, .int (0 : Int32)), (10, .int (0 : Int32)), (8, .long (((w.toInt64 * n.toInt64) * (σ.1 9 i 6).toInt64) - ((w.toInt64 * n.toInt64) * (σ.1 10 i (cell / (30 : Int32)).toNatClampNeg).toInt64))), (6, .long ((w.toInt64 * n.toInt64) * (σ.1 10 i (cell / (30 : Int32)).toNatClampNeg).toInt64)), (4, .long (w.toInt64 * n.toInt64)), (0, .ref (xB s0 + XA 9 i)), (1, .int cell), (2, .int n), (3, .int w)]) hx hb d_VE_bears_97 hl (by decide) rfl (fun ls hl => ?_)
          refine lv_iload hx hb d_VE_bears_99 (lv_at hl 1 rfl) ?_
          refine lv_if_ne (tgt := 113) hx hb d_VE_bears_101 (by decide) (fun c101 => ?_) (fun c101 => ?_)
          · exact absurd (by decide) c101
          · refine lv_iload hx hb d_VE_bears_104 (lv_at hl 0 rfl) ?_
            refine lv_if_ne (tgt := 113) hx hb d_VE_bears_106 (by decide) (fun c106 => ?_) (fun c106 => ?_)
            · exact absurd (by decide) c106
            · refine lv_iconst (v := 1) hx hb d_VE_bears_109 (by decide) ?_
              refine lv_goto (tgt := 114) hx hb d_VE_bears_110 (by decide) ?_
              subst hR
              refine W.widen (k := 0) (n := 0) (by decide) (by decide) ?_; exact xr_z hx hb hr hlocks (by rfl) d_VE_bears_114
        · rw [if_neg c89] at hR
          refine lv_iconst (v := 1) hx hb d_VE_bears_92 (by decide) ?_
          refine lv_goto (tgt := 97) hx hb d_VE_bears_93 (by decide) ?_
          refine lv_istore (lv' := [(11, .int (1 : Int32)), (10, .int (0 : Int32)), (8, .long (((w.toInt64 * n.toInt64) * (σ.1 9 i 6).toInt64) - ((w.toInt64 * n.toInt64) * (σ.1 10 i (cell / (30 : Int32)).toNatClampNeg).toInt64))), (6, .long ((w.toInt64 * n.toInt64) * (σ.1 10 i (cell / (30 : Int32)).toNatClampNeg).toInt64)), (4, .long (w.toInt64 * n.toInt64)), (0, .ref (xB s0 + XA 9 i)), (1, .int cell), (2, .int n), (3, .int w)]) hx hb d_VE_bears_97 hl (by decide) rfl (fun ls hl => ?_)
          refine lv_iload hx hb d_VE_bears_99 (lv_at hl 1 rfl) ?_
          refine lv_if_ne (tgt := 113) hx hb d_VE_bears_101 (by decide) (fun c101 => ?_) (fun c101 => ?_)
          · exact absurd (by decide) c101
          · refine lv_iload hx hb d_VE_bears_104 (lv_at hl 0 rfl) ?_
            refine lv_if_ne (tgt := 113) hx hb d_VE_bears_106 (by decide) (fun c106 => ?_) (fun c106 => ?_)
            · refine lv_iconst (v := 0) hx hb d_VE_bears_113 (by decide) ?_
              subst hR
              refine W.widen (k := 0) (n := 0) (by decide) (by decide) ?_; exact xr_z hx hb hr hlocks (by rfl) d_VE_bears_114
            · exact absurd c106 (by decide)
    · rw [if_neg c57] at hR
      refine lv_iconst (v := 1) hx hb d_VE_bears_60 (by decide) ?_
      refine lv_goto (tgt := 65) hx hb d_VE_bears_61 (by decide) ?_
      refine lv_istore (lv' := [(10, .int (1 : Int32)), (8, .long (((w.toInt64 * n.toInt64) * (σ.1 9 i 6).toInt64) - ((w.toInt64 * n.toInt64) * (σ.1 10 i (cell / (30 : Int32)).toNatClampNeg).toInt64))), (6, .long ((w.toInt64 * n.toInt64) * (σ.1 10 i (cell / (30 : Int32)).toNatClampNeg).toInt64)), (4, .long (w.toInt64 * n.toInt64)), (0, .ref (xB s0 + XA 9 i)), (1, .int cell), (2, .int n), (3, .int w)]) hx hb d_VE_bears_65 hl (by decide) rfl (fun ls hl => ?_)
      refine lv_lload hx hb d_VE_bears_67 (lv_at hl 2 rfl) ?_
      refine lv_lconst (v := 0) hx hb d_VE_bears_69 (by decide) ?_
      refine W.lcmp hx hb d_VE_bears_70 ?_
      refine lv_if_le (tgt := 96) hx hb d_VE_bears_71 (by decide) (fun c71 => ?_) (fun c71 => ?_)
      · rw [if_pos c71] at hR
        refine lv_iconst (v := 0) hx hb d_VE_bears_96 (by decide) ?_
        refine lv_istore (lv' := [(11, .int (0 : Int32)), (10, .int (1 : Int32)), (8, .long (((w.toInt64 * n.toInt64) * (σ.1 9 i 6).toInt64) - ((w.toInt64 * n.toInt64) * (σ.1 10 i (cell / (30 : Int32)).toNatClampNeg).toInt64))), (6, .long ((w.toInt64 * n.toInt64) * (σ.1 10 i (cell / (30 : Int32)).toNatClampNeg).toInt64)), (4, .long (w.toInt64 * n.toInt64)), (0, .ref (xB s0 + XA 9 i)), (1, .int cell), (2, .int n), (3, .int w)]) hx hb d_VE_bears_97 hl (by decide) rfl (fun ls hl => ?_)
        refine lv_iload hx hb d_VE_bears_99 (lv_at hl 1 rfl) ?_
        refine lv_if_ne (tgt := 113) hx hb d_VE_bears_101 (by decide) (fun c101 => ?_) (fun c101 => ?_)
        · refine lv_iconst (v := 0) hx hb d_VE_bears_113 (by decide) ?_
          subst hR
          refine W.widen (k := 0) (n := 0) (by decide) (by decide) ?_; exact xr_z hx hb hr hlocks (by rfl) d_VE_bears_114
        · exact absurd c101 (by decide)
      · rw [if_neg c71] at hR
        refine lv_aload_n hx hb d_VE_bears_74 rfl (lv_at hl 4 rfl) ?_
        refine lv_aload_n hx hb d_VE_bears_75 rfl (lv_at hl 4 rfl) ?_
        obtain ⟨cB76, hcB76, hoB76, hkB76⟩ := xw_recv (r := 9) (i := i) hK hX hi_i rfl rfl
        refine xc_f (rest := [.ref (xB s0 + XA 9 i)]) (x_invV (argsL := []) hx hb hown (hts _ w_390) (hts _ w_392) (hts _ w_9) (x_code (hts _ w_393)) ⟨by decide, by decide⟩ hcB76 hoB76 hkB76 rfl rfl rfl d_VE_bears_76) (c_VE_rearMoment h0 σ i hi_i) (xs_cw h0 hW0 m_393) (hts _ w_36) ⟨rfl, rfl, Nat.le_of_ble_eq_true rfl, Nat.le_of_ble_eq_true rfl⟩ (hl.1.trans hml.symm) (by rw [hb]; exact d_VE_bears_76) (Nat.le_of_ble_eq_true rfl) ⟨Nat.le_of_ble_eq_true rfl, Nat.le_of_ble_eq_true rfl⟩ hX hO ?_
        refine lv_lload hx hb d_VE_bears_79 (lv_at hl 2 rfl) ?_
        refine lv_ladd hx hb d_VE_bears_81 ?_
        refine lv_aload_n hx hb d_VE_bears_82 rfl (lv_at hl 4 rfl) ?_
        refine xw_get (C := R_VE) (T := F_VE) (N := 13) (r := 9) (i := i) hx hb hts hi_VE hown hK hX hi_i rfl rfl 8 (by decide) (hts _ w_98) rfl rfl d_VE_bears_83 ?_
        obtain ⟨cB86, hcB86, hoB86, hkB86⟩ := xw_recv (r := 9) (i := i) hK hX hi_i rfl rfl
        refine xc_f (rest := []) (x_invV (argsL := [.long ((S_VE_rearMoment σ i) + ((w.toInt64 * n.toInt64) * (σ.1 10 i (cell / (30 : Int32)).toNatClampNeg).toInt64)), .int (σ.1 9 i 8)]) hx hb hown (hts _ w_386) (hts _ w_388) (hts _ w_8) (x_code (hts _ w_389)) ⟨by decide, by decide⟩ hcB86 hoB86 hkB86 rfl rfl rfl d_VE_bears_86) (c_VE_exceeds h0 σ i ((S_VE_rearMoment σ i) + ((w.toInt64 * n.toInt64) * (σ.1 10 i (cell / (30 : Int32)).toNatClampNeg).toInt64)) (σ.1 9 i 8) hi_i) (xs_cw h0 hW0 m_389) (hts _ w_36) ⟨rfl, rfl, Nat.le_of_ble_eq_true rfl, Nat.le_of_ble_eq_true rfl⟩ (hl.1.trans hml.symm) (by rw [hb]; exact d_VE_bears_86) (Nat.le_of_ble_eq_true rfl) ⟨Nat.le_of_ble_eq_true rfl, Nat.le_of_ble_eq_true rfl⟩ hX hO ?_
        refine lv_if_eq (tgt := 96) hx hb d_VE_bears_89 (by decide) (fun c89 => ?_) (fun c89 => ?_)
        · rw [if_pos c89] at hR
          refine lv_iconst (v := 0) hx hb d_VE_bears_96 (by decide) ?_
          refine lv_istore (lv' := [(11, .int (0 : Int32)), (10, .int (1 : Int32)), (8, .long (((w.toInt64 * n.toInt64) * (σ.1 9 i 6).toInt64) - ((w.toInt64 * n.toInt64) * (σ.1 10 i (cell / (30 : Int32)).toNatClampNeg).toInt64))), (6, .long ((w.toInt64 * n.toInt64) * (σ.1 10 i (cell / (30 : Int32)).toNatClampNeg).toInt64)), (4, .long (w.toInt64 * n.toInt64)), (0, .ref (xB s0 + XA 9 i)), (1, .int cell), (2, .int n), (3, .int w)]) hx hb d_VE_bears_97 hl (by decide) rfl (fun ls hl => ?_)
          refine lv_iload hx hb d_VE_bears_99 (lv_at hl 1 rfl) ?_
          refine lv_if_ne (tgt := 113) hx hb d_VE_bears_101 (by decide) (fun c101 => ?_) (fun c101 => ?_)
          · refine lv_iconst (v := 0) hx hb d_VE_bears_113 (by decide) ?_
            subst hR
            refine W.widen (k := 0) (n := 0) (by decide) (by decide) ?_; exact xr_z hx hb hr hlocks (by rfl) d_VE_bears_114
          · exact absurd c101 (by decide)
        · rw [if_neg c89] at hR
          refine lv_iconst (v := 1) hx hb d_VE_bears_92 (by decide) ?_
          refine lv_goto (tgt := 97) hx hb d_VE_bears_93 (by decide) ?_
          refine lv_istore (lv' := [(11, .int (1 : Int32)), (10, .int (1 : Int32)), (8, .long (((w.toInt64 * n.toInt64) * (σ.1 9 i 6).toInt64) - ((w.toInt64 * n.toInt64) * (σ.1 10 i (cell / (30 : Int32)).toNatClampNeg).toInt64))), (6, .long ((w.toInt64 * n.toInt64) * (σ.1 10 i (cell / (30 : Int32)).toNatClampNeg).toInt64)), (4, .long (w.toInt64 * n.toInt64)), (0, .ref (xB s0 + XA 9 i)), (1, .int cell), (2, .int n), (3, .int w)]) hx hb d_VE_bears_97 hl (by decide) rfl (fun ls hl => ?_)
          refine lv_iload hx hb d_VE_bears_99 (lv_at hl 1 rfl) ?_
          refine lv_if_ne (tgt := 113) hx hb d_VE_bears_101 (by decide) (fun c101 => ?_) (fun c101 => ?_)
          · refine lv_iconst (v := 0) hx hb d_VE_bears_113 (by decide) ?_
            subst hR
            refine W.widen (k := 0) (n := 0) (by decide) (by decide) ?_; exact xr_z hx hb hr hlocks (by rfl) d_VE_bears_114
          · exact absurd c101 (by decide)

abbrev rm_VE_load : Room := { frames := 0, cells := 0, slots := 0, locals := 0 }
def S_VE_load (σ : XS) (i : Nat) (cell : Int32) (n : Int32) (w : Int32) : Unit × XS := ((), (xuL (xuL (xuI σ 12 i cell.toNatClampNeg ((σ.1 12 i cell.toNatClampNeg) + n)) 9 i 11 (((xuI σ 12 i cell.toNatClampNeg ((σ.1 12 i cell.toNatClampNeg) + n)).2 9 i 11) + (w.toInt64 * n.toInt64))) 9 i 12 (((xuL (xuI σ 12 i cell.toNatClampNeg ((σ.1 12 i cell.toNatClampNeg) + n)) 9 i 11 (((xuI σ 12 i cell.toNatClampNeg ((σ.1 12 i cell.toNatClampNeg) + n)).2 9 i 11) + (w.toInt64 * n.toInt64))).2 9 i 12) + ((w.toInt64 * n.toInt64) * ((xuL (xuI σ 12 i cell.toNatClampNeg ((σ.1 12 i cell.toNatClampNeg) + n)) 9 i 11 (((xuI σ 12 i cell.toNatClampNeg ((σ.1 12 i cell.toNatClampNeg) + n)).2 9 i 11) + (w.toInt64 * n.toInt64))).1 10 i (cell / (30 : Int32)).toNatClampNeg).toInt64))))
set_option maxHeartbeats 4000000 in
set_option maxRecDepth 100000 in
theorem c_VE_load {l : Launch} {s0 : State} {A0 : Array Value} {D : va_G} {dA : Nat → ClassId} (h0 : XS0 l s0 A0 D dA) (σ : XS) (i : Nat) (cell : Int32) (n : Int32) (w : Int32) (hi_i : i < 16) (hc : vp_in cell 240) : XMet l y_VE_load [cw_VE_load] rm_VE_load (XP D dA s0 σ [.ref (xB s0 + XA 9 i), .int cell, .int n, .int w]) (XQs D dA s0 xv_v (.inl (S_VE_load σ i cell n w))) 0 0 (xAm s0) := by
  refine XMet.ofW (cc := b_VE_load) (maxL := 6) (ret := none) (by decide) rfl ?_
  intro p e s m args below meth c s₁ Bd hml hvA
  obtain ⟨rfl, hX, hO⟩ := hvA
  have hx := Bd.exec
  have hb := Bd.bytes
  have hr := Bd.returns
  have hown : s.vm.findClass "LoadChecks$Vehicle" = some m.cls := findClass_of_methodNamed Bd.named
  have hlocks := Bd.notSynchronized
  have hnt : c.exceptionTable.isEmpty = true := Bd.noHandlers (atoms_spec (ws := [cw_VE_load]) Bd.pre _ List.mem_cons_self)
  have hW0 := hO.1
  have hts := xs_w (args := ([.ref (xB s0 + XA 9 i), .int cell, .int n, .int w] : List Value).toArray) h0 hW0
  have hK := xs_K h0 hW0
  have hS := xo_S0 hO
  have hl := lv_entry ([.ref (xB s0 + XA 9 i), .int cell, .int n, .int w]) (n := 6) (Nat.le_of_ble_eq_true rfl)
  rw [lg_entry_eq]
  generalize (lg_sl ([.ref (xB s0 + XA 9 i), .int cell, .int n, .int w]) ++ List.replicate (6 - (lg_sl ([.ref (xB s0 + XA 9 i), .int cell, .int n, .int w])).length) Slot.unset).toArray = ls at hl ⊢
  have hl : lv_has ls 6 [(0, .ref (xB s0 + XA 9 i)), (1, .int cell), (2, .int n), (3, .int w)] := hl
  generalize hR : S_VE_load σ i cell n w = res
  unfold S_VE_load at hR
  refine lv_iload_n hx hb d_VE_load_0 rfl (lv_at hl 3 rfl) ?_
  refine lv_i2l hx hb d_VE_load_1 rfl ?_
  refine lv_iload_n hx hb d_VE_load_2 rfl (lv_at hl 2 rfl) ?_
  refine lv_i2l hx hb d_VE_load_3 rfl ?_
  refine lv_lmul hx hb d_VE_load_4 ?_
  refine lv_lstore (lv' := [(4, .long (w.toInt64 * n.toInt64)), (0, .ref (xB s0 + XA 9 i)), (1, .int cell), (2, .int n), (3, .int w)]) hx hb d_VE_load_5 hl (by decide) rfl (fun ls hl => ?_)
  refine lv_aload_n hx hb d_VE_load_7 rfl (lv_at hl 1 rfl) ?_
  refine xw_get (C := R_VE) (T := F_VE) (N := 13) (r := 9) (i := i) hx hb hts hi_VE hown hK hX hi_i rfl rfl 2 (by decide) (hts _ w_86) rfl rfl d_VE_load_8 ?_
  refine lv_iload_n hx hb d_VE_load_11 rfl (lv_at hl 2 rfl) ?_
  refine lv_dup2_11 hx hb d_VE_load_12 rfl rfl ?_
  refine xw_iald (r := 12) (i := i) hx hb hK hX hi_i 0 rfl rfl (j := cell) hc d_VE_load_13 ?_
  refine lv_iload_n hx hb d_VE_load_14 rfl (lv_at hl 3 rfl) ?_
  refine lv_iadd hx hb d_VE_load_15 ?_
  refine xw_iast (r := 12) (i := i) (ent' := XE dA (xB s0) (xuI σ 12 i cell.toNatClampNeg ((σ.1 12 i cell.toNatClampNeg) + n))) hx hb hK xInj hX hS (xA_in _ _ _) hi_i 0 rfl rfl (j := cell) hc ((xe_uI dA (xB s0) σ 12 i cell.toNatClampNeg ((σ.1 12 i cell.toNatClampNeg) + n)).trans rfl) (xe_oI dA (xB s0) σ 12 i cell.toNatClampNeg ((σ.1 12 i cell.toNatClampNeg) + n)) d_VE_load_16 (fun H locs hX hS => ?_)
  refine lv_aload_n hx hb d_VE_load_17 rfl (lv_at hl 1 rfl) ?_
  refine lv_dup hx hb d_VE_load_18 rfl ?_
  refine xw_get (C := R_VE) (T := F_VE) (N := 13) (r := 9) (i := i) hx hb hts hi_VE hown hK hX hi_i rfl rfl 11 (by decide) (hts _ w_103) rfl rfl d_VE_load_19 ?_
  refine lv_lload hx hb d_VE_load_22 (lv_at hl 0 rfl) ?_
  refine lv_ladd hx hb d_VE_load_24 ?_
  refine xw_put (C := R_VE) (T := F_VE) (N := 13) (r := 9) (i := i) (ent' := XE dA (xB s0) (xuL (xuI σ 12 i cell.toNatClampNeg ((σ.1 12 i cell.toNatClampNeg) + n)) 9 i 11 (((xuI σ 12 i cell.toNatClampNeg ((σ.1 12 i cell.toNatClampNeg) + n)).2 9 i 11) + (w.toInt64 * n.toInt64)))) hx hb hts hi_VE t_VE t_VE_ok n_VE hown hK xInj hX hS (xA_in _ _ _) hi_i rfl rfl 11 (by decide) (hts _ w_103) rfl rfl rfl rfl (Nat.le_of_ble_eq_true rfl) ((xe_uL dA (xB s0) (xuI σ 12 i cell.toNatClampNeg ((σ.1 12 i cell.toNatClampNeg) + n)) 9 i 11 (((xuI σ 12 i cell.toNatClampNeg ((σ.1 12 i cell.toNatClampNeg) + n)).2 9 i 11) + (w.toInt64 * n.toInt64))).trans rfl) (xe_oL dA (xB s0) (xuI σ 12 i cell.toNatClampNeg ((σ.1 12 i cell.toNatClampNeg) + n)) 9 i 11 (((xuI σ 12 i cell.toNatClampNeg ((σ.1 12 i cell.toNatClampNeg) + n)).2 9 i 11) + (w.toInt64 * n.toInt64))) d_VE_load_25 (fun H locs hX hS => ?_)
  refine lv_aload_n hx hb d_VE_load_28 rfl (lv_at hl 1 rfl) ?_
  refine lv_dup hx hb d_VE_load_29 rfl ?_
  refine xw_get (C := R_VE) (T := F_VE) (N := 13) (r := 9) (i := i) hx hb hts hi_VE hown hK hX hi_i rfl rfl 12 (by decide) (hts _ w_104) rfl rfl d_VE_load_30 ?_
  refine lv_lload hx hb d_VE_load_33 (lv_at hl 0 rfl) ?_
  refine lv_aload_n hx hb d_VE_load_35 rfl (lv_at hl 1 rfl) ?_
  refine xw_get (C := R_VE) (T := F_VE) (N := 13) (r := 9) (i := i) hx hb hts hi_VE hown hK hX hi_i rfl rfl 0 (by decide) (hts _ w_82) rfl rfl d_VE_load_36 ?_
  refine lv_iload_n hx hb d_VE_load_39 rfl (lv_at hl 2 rfl) ?_
  refine lv_bipush (v := 30) hx hb d_VE_load_40 (by decide) ?_
  refine lv_idiv hx hb d_VE_load_42 (by decide) ?_
  refine xw_iald (r := 10) (i := i) hx hb hK hX hi_i 0 rfl rfl (j := (cell / (30 : Int32))) (o_div hc) d_VE_load_43 ?_
  refine lv_i2l hx hb d_VE_load_44 rfl ?_
  refine lv_lmul hx hb d_VE_load_45 ?_
  refine lv_ladd hx hb d_VE_load_46 ?_
  refine xw_put (C := R_VE) (T := F_VE) (N := 13) (r := 9) (i := i) (ent' := XE dA (xB s0) (xuL (xuL (xuI σ 12 i cell.toNatClampNeg ((σ.1 12 i cell.toNatClampNeg) + n)) 9 i 11 (((xuI σ 12 i cell.toNatClampNeg ((σ.1 12 i cell.toNatClampNeg) + n)).2 9 i 11) + (w.toInt64 * n.toInt64))) 9 i 12 (((xuL (xuI σ 12 i cell.toNatClampNeg ((σ.1 12 i cell.toNatClampNeg) + n)) 9 i 11 (((xuI σ 12 i cell.toNatClampNeg ((σ.1 12 i cell.toNatClampNeg) + n)).2 9 i 11) + (w.toInt64 * n.toInt64))).2 9 i 12) + ((w.toInt64 * n.toInt64) * ((xuL (xuI σ 12 i cell.toNatClampNeg ((σ.1 12 i cell.toNatClampNeg) + n)) 9 i 11 (((xuI σ 12 i cell.toNatClampNeg ((σ.1 12 i cell.toNatClampNeg) + n)).2 9 i 11) + (w.toInt64 * n.toInt64))).1 10 i (cell / (30 : Int32)).toNatClampNeg).toInt64)))) hx hb hts hi_VE t_VE t_VE_ok n_VE hown hK xInj hX hS (xA_in _ _ _) hi_i rfl rfl 12 (by decide) (hts _ w_104) rfl rfl rfl rfl (Nat.le_of_ble_eq_true rfl) ((xe_uL dA (xB s0) (xuL (xuI σ 12 i cell.toNatClampNeg ((σ.1 12 i cell.toNatClampNeg) + n)) 9 i 11 (((xuI σ 12 i cell.toNatClampNeg ((σ.1 12 i cell.toNatClampNeg) + n)).2 9 i 11) + (w.toInt64 * n.toInt64))) 9 i 12 (((xuL (xuI σ 12 i cell.toNatClampNeg ((σ.1 12 i cell.toNatClampNeg) + n)) 9 i 11 (((xuI σ 12 i cell.toNatClampNeg ((σ.1 12 i cell.toNatClampNeg) + n)).2 9 i 11) + (w.toInt64 * n.toInt64))).2 9 i 12) + ((w.toInt64 * n.toInt64) * ((xuL (xuI σ 12 i cell.toNatClampNeg ((σ.1 12 i cell.toNatClampNeg) + n)) 9 i 11 (((xuI σ 12 i cell.toNatClampNeg ((σ.1 12 i cell.toNatClampNeg) + n)).2 9 i 11) + (w.toInt64 * n.toInt64))).1 10 i (cell / (30 : Int32)).toNatClampNeg).toInt64))).trans rfl) (xe_oL dA (xB s0) (xuL (xuI σ 12 i cell.toNatClampNeg ((σ.1 12 i cell.toNatClampNeg) + n)) 9 i 11 (((xuI σ 12 i cell.toNatClampNeg ((σ.1 12 i cell.toNatClampNeg) + n)).2 9 i 11) + (w.toInt64 * n.toInt64))) 9 i 12 (((xuL (xuI σ 12 i cell.toNatClampNeg ((σ.1 12 i cell.toNatClampNeg) + n)) 9 i 11 (((xuI σ 12 i cell.toNatClampNeg ((σ.1 12 i cell.toNatClampNeg) + n)).2 9 i 11) + (w.toInt64 * n.toInt64))).2 9 i 12) + ((w.toInt64 * n.toInt64) * ((xuL (xuI σ 12 i cell.toNatClampNeg ((σ.1 12 i cell.toNatClampNeg) + n)) 9 i 11 (((xuI σ 12 i cell.toNatClampNeg ((σ.1 12 i cell.toNatClampNeg) + n)).2 9 i 11) + (w.toInt64 * n.toInt64))).1 10 i (cell / (30 : Int32)).toNatClampNeg).toInt64))) d_VE_load_47 (fun H locs hX hS => ?_)
  subst hR
  refine W.widen (k := 0) (n := 0) (by decide) (by decide) ?_; exact xs_v hx hb hr hlocks hX hS d_VE_load_50

abbrev rm_VE_isEmpty : Room := { frames := 1, cells := 0, slots := 0, locals := 21 }
def L_VE_isEmpty : Nat → XS → Nat → Int32 → Int32 → Int32
  | 0, _, _, _, _ => default
  | n + 1, σ, i, cup, x2 => (if (30 : Int32) ≤ x2 then (1 : Int32) else (if (σ.1 12 i (S_LC_cellOf σ cup x2).toNatClampNeg) ≤ 0 then (L_VE_isEmpty n σ i cup (x2 + 1)) else (0 : Int32)))
def S_VE_isEmpty (σ : XS) (i : Nat) (cup : Int32) : Int32 := (L_VE_isEmpty 31 σ i cup (0 : Int32))
set_option maxHeartbeats 4000000 in
set_option maxRecDepth 100000 in
theorem l_VE_isEmpty {l : Launch} {s0 : State} {A0 : Array Value} {D : va_G} {dA : Nat → ClassId} (h0 : XS0 l s0 A0 D dA) {p : Program} {e : Env} {s : State} {m : MethodId} {args : Array Value} {below : List Frame} {meth : Method} {c : Code} (hx : p.tables.exec = Jvm.exec) (hb : c.code = b_VE_isEmpty) (hr : meth.sig.returnType = (some .boolean)) (hml : c.maxLocals = 3) (hown : s.vm.findClass "LoadChecks$Vehicle" = some m.cls) (hlocks : meth.locks = false) (hnt : c.exceptionTable.isEmpty = true) (hO : XO s0 s s.heap) :
    ∀ (n : Nat) (σ : XS) (i : Nat) (cup : Int32) (x2 : Int32) (k : Nat), x2 = nI k → k + n = 31 → k < 31 → i < 16 → vp_in cup 8 → XWs D dA s0 σ s.heap → ∀ (ls : Array Slot), lv_has ls 3 [(0, .ref (xB s0 + XA 9 i)), (1, .int cup), (2, .int x2)] → ∀ res, L_VE_isEmpty n σ i cup x2 = res →
    W p l e rm_VE_isEmpty s m args below meth c s.heap [] 0 0 (XMQ below (XQp xv_i (.inl res)) args s 0 0 (fun _ => False)) (F0 m 2 ls []) := by
  have hW0 := hO.1
  have hts := xs_w (args := args) h0 hW0
  have hK := xs_K h0 hW0
  intro n
  induction n with
  | zero =>
    intro σ i cup x2 k e1 h2 h3
    exact absurd h2 (by omega)
  | succ n ih =>
    intro σ i cup x2 k e_x2 hkn hkF hi_i hc hX ls hl res hR
    rw [L_VE_isEmpty] at hR
    refine lv_iload_n hx hb d_VE_isEmpty_2 rfl (lv_at hl 2 rfl) ?_
    refine lv_bipush (v := 30) hx hb d_VE_isEmpty_3 (by decide) ?_
    refine lv_icmp_ge (tgt := 29) hx hb d_VE_isEmpty_5 (by decide) (fun c5 => ?_) (fun c5 => ?_)
    · rw [if_pos c5] at hR
      refine lv_iconst (v := 1) hx hb d_VE_isEmpty_29 (by decide) ?_
      subst hR
      refine W.widen (k := 0) (n := 0) (by decide) (by decide) ?_; exact xr_z hx hb hr hlocks (by rfl) d_VE_isEmpty_30
    · rw [if_neg c5] at hR
      have hk : k < 30 := x_klt (b := 30) rfl (by decide) (by omega) e_x2 c5
      refine lv_aload_n hx hb d_VE_isEmpty_8 rfl (lv_at hl 0 rfl) ?_
      refine xw_get (C := R_VE) (T := F_VE) (N := 13) (r := 9) (i := i) hx hb hts hi_VE hown hK hX hi_i rfl rfl 2 (by decide) (hts _ w_86) rfl rfl d_VE_isEmpty_9 ?_
      refine lv_iload_n hx hb d_VE_isEmpty_12 rfl (lv_at hl 1 rfl) ?_
      refine lv_iload_n hx hb d_VE_isEmpty_13 rfl (lv_at hl 2 rfl) ?_
      refine xc_f (rest := [.ref (xB s0 + XA 12 i)]) (x_invSN (argsL := [.int cup, .int x2]) hx hb hown (xs_M h0 hW0 m_311) (hts _ w_312) (hts _ w_34) (x_code (hts _ w_313)) ⟨by decide, by decide⟩ rfl rfl rfl d_VE_isEmpty_14) (c_LC_cellOf h0 σ cup x2) (xs_cw h0 hW0 m_313) (hts _ w_34) ⟨rfl, rfl, Nat.le_of_ble_eq_true rfl, Nat.le_of_ble_eq_true rfl⟩ (hl.1.trans hml.symm) (by rw [hb]; exact d_VE_isEmpty_14) (Nat.le_of_ble_eq_true rfl) ⟨Nat.le_of_ble_eq_true rfl, Nat.le_of_ble_eq_true rfl⟩ hX hO ?_
      refine xw_iald (r := 12) (i := i) hx hb hK hX hi_i 0 rfl rfl (j := (S_LC_cellOf σ cup x2)) (o_cell hc (o_nI e_x2 hk (by decide))) d_VE_isEmpty_17 ?_
      refine lv_if_le (tgt := 23) hx hb d_VE_isEmpty_18 (by decide) (fun c18 => ?_) (fun c18 => ?_)
      · rw [if_pos c18] at hR
        refine lv_iinc (v := (x2 + 1)) (lv' := [(2, .int (x2 + 1)), (0, .ref (xB s0 + XA 9 i)), (1, .int cup)]) hx hb d_VE_isEmpty_23 hl (k := 2) rfl rfl (by decide) rfl (fun ls hl => ?_)
        refine lv_goto (tgt := 2) hx hb d_VE_isEmpty_26 (by decide) ?_
        exact ih σ i cup (x2 + 1) (k + 1) (by rw [e_x2]; exact nI_1 k) (by omega) (by omega) hi_i hc hX ls (lv_sub hl [1, 2, 0] rfl) res hR
      · rw [if_neg c18] at hR
        refine lv_iconst (v := 0) hx hb d_VE_isEmpty_21 (by decide) ?_
        subst hR
        refine W.widen (k := 0) (n := 0) (by decide) (by decide) ?_; exact xr_z hx hb hr hlocks (by rfl) d_VE_isEmpty_22
set_option maxHeartbeats 4000000 in
set_option maxRecDepth 100000 in
theorem c_VE_isEmpty {l : Launch} {s0 : State} {A0 : Array Value} {D : va_G} {dA : Nat → ClassId} (h0 : XS0 l s0 A0 D dA) (σ : XS) (i : Nat) (cup : Int32) (hi_i : i < 16) (hc : vp_in cup 8) : XMet l y_VE_isEmpty [cw_VE_isEmpty] rm_VE_isEmpty (XP D dA s0 σ [.ref (xB s0 + XA 9 i), .int cup]) (XQp xv_i (.inl (S_VE_isEmpty σ i cup))) 0 0 (fun _ => False) := by
  refine XMet.ofW (cc := b_VE_isEmpty) (maxL := 3) (ret := (some .boolean)) (by decide) rfl ?_
  intro p e s m args below meth c s₁ Bd hml hvA
  obtain ⟨rfl, hX, hO⟩ := hvA
  have hx := Bd.exec
  have hb := Bd.bytes
  have hr := Bd.returns
  have hown : s.vm.findClass "LoadChecks$Vehicle" = some m.cls := findClass_of_methodNamed Bd.named
  have hlocks := Bd.notSynchronized
  have hnt : c.exceptionTable.isEmpty = true := Bd.noHandlers (atoms_spec (ws := [cw_VE_isEmpty]) Bd.pre _ List.mem_cons_self)
  have hW0 := hO.1
  have hts := xs_w (args := ([.ref (xB s0 + XA 9 i), .int cup] : List Value).toArray) h0 hW0
  have hK := xs_K h0 hW0
  have hl := lv_entry ([.ref (xB s0 + XA 9 i), .int cup]) (n := 3) (Nat.le_of_ble_eq_true rfl)
  rw [lg_entry_eq]
  generalize (lg_sl ([.ref (xB s0 + XA 9 i), .int cup]) ++ List.replicate (3 - (lg_sl ([.ref (xB s0 + XA 9 i), .int cup])).length) Slot.unset).toArray = ls at hl ⊢
  have hl : lv_has ls 3 [(0, .ref (xB s0 + XA 9 i)), (1, .int cup)] := hl
  generalize hR : S_VE_isEmpty σ i cup = res
  unfold S_VE_isEmpty at hR
  refine lv_iconst (v := 0) hx hb d_VE_isEmpty_0 (by decide) ?_
  refine lv_istore_n (lv' := [(2, .int (0 : Int32)), (0, .ref (xB s0 + XA 9 i)), (1, .int cup)]) hx hb d_VE_isEmpty_1 rfl hl (by decide) rfl (fun ls hl => ?_)
  exact l_VE_isEmpty h0 hx hb hr hml hown hlocks hnt hO 31 σ i cup (0 : Int32) 0 nI_0.symm rfl (by decide) hi_i hc hX ls (lv_sub hl [1, 2, 0] rfl) res hR

abbrev rm_VE_carries : Room := { frames := 1, cells := 0, slots := 0, locals := 21 }
def L_VE_carries : Nat → XS → Nat → Int32 → Int32 → Int32
  | 0, _, _, _, _ => default
  | n + 1, σ, i, it, x2 => (if (8 : Int32) ≤ x2 then (0 : Int32) else (if (σ.1 12 i (S_LC_cellOf σ x2 it).toNatClampNeg) ≤ 0 then (L_VE_carries n σ i it (x2 + 1)) else (1 : Int32)))
def S_VE_carries (σ : XS) (i : Nat) (it : Int32) : Int32 := (L_VE_carries 9 σ i it (0 : Int32))
set_option maxHeartbeats 4000000 in
set_option maxRecDepth 100000 in
theorem l_VE_carries {l : Launch} {s0 : State} {A0 : Array Value} {D : va_G} {dA : Nat → ClassId} (h0 : XS0 l s0 A0 D dA) {p : Program} {e : Env} {s : State} {m : MethodId} {args : Array Value} {below : List Frame} {meth : Method} {c : Code} (hx : p.tables.exec = Jvm.exec) (hb : c.code = b_VE_carries) (hr : meth.sig.returnType = (some .boolean)) (hml : c.maxLocals = 3) (hown : s.vm.findClass "LoadChecks$Vehicle" = some m.cls) (hlocks : meth.locks = false) (hnt : c.exceptionTable.isEmpty = true) (hO : XO s0 s s.heap) :
    ∀ (n : Nat) (σ : XS) (i : Nat) (it : Int32) (x2 : Int32) (k : Nat), x2 = nI k → k + n = 9 → k < 9 → i < 16 → vp_in it 30 → XWs D dA s0 σ s.heap → ∀ (ls : Array Slot), lv_has ls 3 [(0, .ref (xB s0 + XA 9 i)), (1, .int it), (2, .int x2)] → ∀ res, L_VE_carries n σ i it x2 = res →
    W p l e rm_VE_carries s m args below meth c s.heap [] 0 0 (XMQ below (XQp xv_i (.inl res)) args s 0 0 (fun _ => False)) (F0 m 2 ls []) := by
  have hW0 := hO.1
  have hts := xs_w (args := args) h0 hW0
  have hK := xs_K h0 hW0
  intro n
  induction n with
  | zero =>
    intro σ i it x2 k e1 h2 h3
    exact absurd h2 (by omega)
  | succ n ih =>
    intro σ i it x2 k e_x2 hkn hkF hi_i hc hX ls hl res hR
    rw [L_VE_carries] at hR
    refine lv_iload_n hx hb d_VE_carries_2 rfl (lv_at hl 2 rfl) ?_
    refine lv_bipush (v := 8) hx hb d_VE_carries_3 (by decide) ?_
    refine lv_icmp_ge (tgt := 29) hx hb d_VE_carries_5 (by decide) (fun c5 => ?_) (fun c5 => ?_)
    · rw [if_pos c5] at hR
      refine lv_iconst (v := 0) hx hb d_VE_carries_29 (by decide) ?_
      subst hR
      refine W.widen (k := 0) (n := 0) (by decide) (by decide) ?_; exact xr_z hx hb hr hlocks (by rfl) d_VE_carries_30
    · rw [if_neg c5] at hR
      have hk : k < 8 := x_klt (b := 8) rfl (by decide) (by omega) e_x2 c5
      refine lv_aload_n hx hb d_VE_carries_8 rfl (lv_at hl 0 rfl) ?_
      refine xw_get (C := R_VE) (T := F_VE) (N := 13) (r := 9) (i := i) hx hb hts hi_VE hown hK hX hi_i rfl rfl 2 (by decide) (hts _ w_86) rfl rfl d_VE_carries_9 ?_
      refine lv_iload_n hx hb d_VE_carries_12 rfl (lv_at hl 2 rfl) ?_
      refine lv_iload_n hx hb d_VE_carries_13 rfl (lv_at hl 1 rfl) ?_
      refine xc_f (rest := [.ref (xB s0 + XA 12 i)]) (x_invSN (argsL := [.int x2, .int it]) hx hb hown (xs_M h0 hW0 m_311) (hts _ w_312) (hts _ w_34) (x_code (hts _ w_313)) ⟨by decide, by decide⟩ rfl rfl rfl d_VE_carries_14) (c_LC_cellOf h0 σ x2 it) (xs_cw h0 hW0 m_313) (hts _ w_34) ⟨rfl, rfl, Nat.le_of_ble_eq_true rfl, Nat.le_of_ble_eq_true rfl⟩ (hl.1.trans hml.symm) (by rw [hb]; exact d_VE_carries_14) (Nat.le_of_ble_eq_true rfl) ⟨Nat.le_of_ble_eq_true rfl, Nat.le_of_ble_eq_true rfl⟩ hX hO ?_
      refine xw_iald (r := 12) (i := i) hx hb hK hX hi_i 0 rfl rfl (j := (S_LC_cellOf σ x2 it)) (o_cell (o_nI e_x2 hk (by decide)) hc) d_VE_carries_17 ?_
      refine lv_if_le (tgt := 23) hx hb d_VE_carries_18 (by decide) (fun c18 => ?_) (fun c18 => ?_)
      · rw [if_pos c18] at hR
        refine lv_iinc (v := (x2 + 1)) (lv' := [(2, .int (x2 + 1)), (0, .ref (xB s0 + XA 9 i)), (1, .int it)]) hx hb d_VE_carries_23 hl (k := 2) rfl rfl (by decide) rfl (fun ls hl => ?_)
        refine lv_goto (tgt := 2) hx hb d_VE_carries_26 (by decide) ?_
        exact ih σ i it (x2 + 1) (k + 1) (by rw [e_x2]; exact nI_1 k) (by omega) (by omega) hi_i hc hX ls (lv_sub hl [1, 2, 0] rfl) res hR
      · rw [if_neg c18] at hR
        refine lv_iconst (v := 1) hx hb d_VE_carries_21 (by decide) ?_
        subst hR
        refine W.widen (k := 0) (n := 0) (by decide) (by decide) ?_; exact xr_z hx hb hr hlocks (by rfl) d_VE_carries_22
set_option maxHeartbeats 4000000 in
set_option maxRecDepth 100000 in
theorem c_VE_carries {l : Launch} {s0 : State} {A0 : Array Value} {D : va_G} {dA : Nat → ClassId} (h0 : XS0 l s0 A0 D dA) (σ : XS) (i : Nat) (it : Int32) (hi_i : i < 16) (hc : vp_in it 30) : XMet l y_VE_carries [cw_VE_carries] rm_VE_carries (XP D dA s0 σ [.ref (xB s0 + XA 9 i), .int it]) (XQp xv_i (.inl (S_VE_carries σ i it))) 0 0 (fun _ => False) := by
  refine XMet.ofW (cc := b_VE_carries) (maxL := 3) (ret := (some .boolean)) (by decide) rfl ?_
  intro p e s m args below meth c s₁ Bd hml hvA
  obtain ⟨rfl, hX, hO⟩ := hvA
  have hx := Bd.exec
  have hb := Bd.bytes
  have hr := Bd.returns
  have hown : s.vm.findClass "LoadChecks$Vehicle" = some m.cls := findClass_of_methodNamed Bd.named
  have hlocks := Bd.notSynchronized
  have hnt : c.exceptionTable.isEmpty = true := Bd.noHandlers (atoms_spec (ws := [cw_VE_carries]) Bd.pre _ List.mem_cons_self)
  have hW0 := hO.1
  have hts := xs_w (args := ([.ref (xB s0 + XA 9 i), .int it] : List Value).toArray) h0 hW0
  have hK := xs_K h0 hW0
  have hl := lv_entry ([.ref (xB s0 + XA 9 i), .int it]) (n := 3) (Nat.le_of_ble_eq_true rfl)
  rw [lg_entry_eq]
  generalize (lg_sl ([.ref (xB s0 + XA 9 i), .int it]) ++ List.replicate (3 - (lg_sl ([.ref (xB s0 + XA 9 i), .int it])).length) Slot.unset).toArray = ls at hl ⊢
  have hl : lv_has ls 3 [(0, .ref (xB s0 + XA 9 i)), (1, .int it)] := hl
  generalize hR : S_VE_carries σ i it = res
  unfold S_VE_carries at hR
  refine lv_iconst (v := 0) hx hb d_VE_carries_0 (by decide) ?_
  refine lv_istore_n (lv' := [(2, .int (0 : Int32)), (0, .ref (xB s0 + XA 9 i)), (1, .int it)]) hx hb d_VE_carries_1 rfl hl (by decide) rfl (fun ls hl => ?_)
  exact l_VE_carries h0 hx hb hr hml hown hlocks hnt hO 9 σ i it (0 : Int32) 0 nI_0.symm rfl (by decide) hi_i hc hX ls (lv_sub hl [1, 2, 0] rfl) res hR

abbrev rm_VE_lackOf : Room := { frames := 1, cells := 0, slots := 0, locals := 23 }
def S_VE_lackOf (σ : XS) (i : Nat) (cell : Int32) (need : Int32) : Int32 := (if (need - (σ.1 12 i cell.toNatClampNeg)) < (0 : Int32) then (0 : Int32) else (need - (σ.1 12 i cell.toNatClampNeg)))
set_option maxHeartbeats 4000000 in
set_option maxRecDepth 100000 in
theorem c_VE_lackOf {l : Launch} {s0 : State} {A0 : Array Value} {D : va_G} {dA : Nat → ClassId} (h0 : XS0 l s0 A0 D dA) (σ : XS) (i : Nat) (cell : Int32) (need : Int32) (hi_i : i < 16) (hc : vp_in cell 240) : XMet l y_VE_lackOf [cw_VE_lackOf] rm_VE_lackOf (XP D dA s0 σ [.ref (xB s0 + XA 9 i), .int cell, .int need]) (XQp xv_i (.inl (S_VE_lackOf σ i cell need))) 0 0 (fun _ => False) := by
  refine XMet.ofW (cc := b_VE_lackOf) (maxL := 3) (ret := (some .int)) (by decide) rfl ?_
  intro p e s m args below meth c s₁ Bd hml hvA
  obtain ⟨rfl, hX, hO⟩ := hvA
  have hx := Bd.exec
  have hb := Bd.bytes
  have hr := Bd.returns
  have hown : s.vm.findClass "LoadChecks$Vehicle" = some m.cls := findClass_of_methodNamed Bd.named
  have hlocks := Bd.notSynchronized
  have hnt : c.exceptionTable.isEmpty = true := Bd.noHandlers (atoms_spec (ws := [cw_VE_lackOf]) Bd.pre _ List.mem_cons_self)
  have hW0 := hO.1
  have hts := xs_w (args := ([.ref (xB s0 + XA 9 i), .int cell, .int need] : List Value).toArray) h0 hW0
  have hK := xs_K h0 hW0
  have hl := lv_entry ([.ref (xB s0 + XA 9 i), .int cell, .int need]) (n := 3) (Nat.le_of_ble_eq_true rfl)
  rw [lg_entry_eq]
  generalize (lg_sl ([.ref (xB s0 + XA 9 i), .int cell, .int need]) ++ List.replicate (3 - (lg_sl ([.ref (xB s0 + XA 9 i), .int cell, .int need])).length) Slot.unset).toArray = ls at hl ⊢
  have hl : lv_has ls 3 [(0, .ref (xB s0 + XA 9 i)), (1, .int cell), (2, .int need)] := hl
  generalize hR : S_VE_lackOf σ i cell need = res
  unfold S_VE_lackOf at hR
  refine lv_iload_n hx hb d_VE_lackOf_0 rfl (lv_at hl 2 rfl) ?_
  refine lv_aload_n hx hb d_VE_lackOf_1 rfl (lv_at hl 0 rfl) ?_
  refine xw_get (C := R_VE) (T := F_VE) (N := 13) (r := 9) (i := i) hx hb hts hi_VE hown hK hX hi_i rfl rfl 2 (by decide) (hts _ w_86) rfl rfl d_VE_lackOf_2 ?_
  refine lv_iload_n hx hb d_VE_lackOf_5 rfl (lv_at hl 1 rfl) ?_
  refine xw_iald (r := 12) (i := i) hx hb hK hX hi_i 0 rfl rfl (j := cell) hc d_VE_lackOf_6 ?_
  refine lv_isub hx hb d_VE_lackOf_7 ?_
  refine lv_iconst (v := 0) hx hb d_VE_lackOf_8 (by decide) ?_
  refine va_mmax hx hb (hml.trans hl.1.symm) hown (hts _ w_425) (hts _ w_426) (hts _ w_46) (hts _ w_427) (Nat.le_of_ble_eq_true rfl) (Nat.le_of_ble_eq_true rfl) (Nat.le_of_ble_eq_true rfl) (Nat.le_of_ble_eq_true rfl) d_VE_lackOf_9 ?_
  subst hR
  refine W.widen (k := 0) (n := 0) (by decide) (by decide) ?_; exact xr_i hx hb hr hlocks d_VE_lackOf_12

abbrev rm_VE_missingCell : Room := { frames := 2, cells := 0, slots := 0, locals := 45 }
def L_VE_missingCell : Nat → XS → Nat → Nat → Int32 → Int32 → Int32 → Int32
  | 0, _, _, _, _, _, _ => default
  | n + 1, σ, i, kk, q, x3, x4 => (if (240 : Int32) ≤ x4 then (-1 : Int32) else (if (S_VE_lackOf σ i x4 (σ.1 5 kk x4.toNatClampNeg)) ≤ 0 then (L_VE_missingCell n σ i kk q x3 (x4 + 1)) else (if x3 = q then x4 else (L_VE_missingCell n σ i kk q (x3 + 1) (x4 + 1)))))
def S_VE_missingCell (σ : XS) (i : Nat) (kk : Nat) (q : Int32) : Int32 := (L_VE_missingCell 241 σ i kk q (0 : Int32) (0 : Int32))
set_option maxHeartbeats 4000000 in
set_option maxRecDepth 100000 in
theorem l_VE_missingCell {l : Launch} {s0 : State} {A0 : Array Value} {D : va_G} {dA : Nat → ClassId} (h0 : XS0 l s0 A0 D dA) {p : Program} {e : Env} {s : State} {m : MethodId} {args : Array Value} {below : List Frame} {meth : Method} {c : Code} (hx : p.tables.exec = Jvm.exec) (hb : c.code = b_VE_missingCell) (hr : meth.sig.returnType = (some .int)) (hml : c.maxLocals = 5) (hown : s.vm.findClass "LoadChecks$Vehicle" = some m.cls) (hlocks : meth.locks = false) (hnt : c.exceptionTable.isEmpty = true) (hO : XO s0 s s.heap) :
    ∀ (n : Nat) (σ : XS) (i : Nat) (kk : Nat) (q : Int32) (x3 : Int32) (x4 : Int32) (k : Nat), x4 = nI k → k + n = 241 → k < 241 → i < 16 → kk < 6 → XWs D dA s0 σ s.heap → ∀ (ls : Array Slot), lv_has ls 5 [(0, .ref (xB s0 + XA 9 i)), (1, .ref (xB s0 + XA 5 kk)), (2, .int q), (3, .int x3), (4, .int x4)] → ∀ res, L_VE_missingCell n σ i kk q x3 x4 = res →
    W p l e rm_VE_missingCell s m args below meth c s.heap [] 0 0 (XMQ below (XQp xv_i (.inl res)) args s 0 0 (fun _ => False)) (F0 m 5 ls []) := by
  have hW0 := hO.1
  have hts := xs_w (args := args) h0 hW0
  have hK := xs_K h0 hW0
  intro n
  induction n with
  | zero =>
    intro σ i kk q x3 x4 k e1 h2 h3
    exact absurd h2 (by omega)
  | succ n ih =>
    intro σ i kk q x3 x4 k e_x4 hkn hkF hi_i hi_kk hX ls hl res hR
    rw [L_VE_missingCell] at hR
    refine lv_iload hx hb d_VE_missingCell_5 (lv_at hl 4 rfl) ?_
    refine lv_sipush (v := 240) hx hb d_VE_missingCell_7 (by decide) ?_
    refine lv_icmp_ge (tgt := 43) hx hb d_VE_missingCell_10 (by decide) (fun c10 => ?_) (fun c10 => ?_)
    · rw [if_pos c10] at hR
      refine lv_iconst (v := -1) hx hb d_VE_missingCell_43 (by decide) ?_
      subst hR
      refine W.widen (k := 0) (n := 0) (by decide) (by decide) ?_; exact xr_i hx hb hr hlocks d_VE_missingCell_44
    · rw [if_neg c10] at hR
      have hk : k < 240 := x_klt (b := 240) rfl (by decide) (by omega) e_x4 c10
      have hcx : vp_in x4 240 := o_nI e_x4 hk (by decide)
      refine lv_aload_n hx hb d_VE_missingCell_13 rfl (lv_at hl 0 rfl) ?_
      refine lv_iload hx hb d_VE_missingCell_14 (lv_at hl 4 rfl) ?_
      refine lv_aload_n hx hb d_VE_missingCell_16 rfl (lv_at hl 1 rfl) ?_
      refine lv_iload hx hb d_VE_missingCell_17 (lv_at hl 4 rfl) ?_
      refine xw_iald (r := 5) (i := kk) hx hb hK hX hi_kk 0 rfl rfl (j := x4) hcx d_VE_missingCell_19 ?_
      obtain ⟨cB20, hcB20, hoB20, hkB20⟩ := xw_recv (r := 9) (i := i) hK hX hi_i rfl rfl
      refine xc_f (rest := []) (x_invV (argsL := [.int x4, .int (σ.1 5 kk x4.toNatClampNeg)]) hx hb hown (hts _ w_491) (hts _ w_423) (hts _ w_11) (x_code (hts _ w_424)) ⟨by decide, by decide⟩ hcB20 hoB20 hkB20 rfl rfl rfl d_VE_missingCell_20) (c_VE_lackOf h0 σ i x4 (σ.1 5 kk x4.toNatClampNeg) hi_i hcx) (xs_cw h0 hW0 m_424) (hts _ w_36) ⟨rfl, rfl, Nat.le_of_ble_eq_true rfl, Nat.le_of_ble_eq_true rfl⟩ (hl.1.trans hml.symm) (by rw [hb]; exact d_VE_missingCell_20) (Nat.le_of_ble_eq_true rfl) ⟨Nat.le_of_ble_eq_true rfl, Nat.le_of_ble_eq_true rfl⟩ hX hO ?_
      refine lv_if_le (tgt := 37) hx hb d_VE_missingCell_23 (by decide) (fun c23 => ?_) (fun c23 => ?_)
      · rw [if_pos c23] at hR
        refine lv_iinc (v := (x4 + 1)) (lv' := [(4, .int (x4 + 1)), (0, .ref (xB s0 + XA 9 i)), (1, .ref (xB s0 + XA 5 kk)), (2, .int q), (3, .int x3)]) hx hb d_VE_missingCell_37 hl (k := 4) rfl rfl (by decide) rfl (fun ls hl => ?_)
        refine lv_goto (tgt := 5) hx hb d_VE_missingCell_40 (by decide) ?_
        exact ih σ i kk q x3 (x4 + 1) (k + 1) (by rw [e_x4]; exact nI_1 k) (by omega) (by omega) hi_i hi_kk  hX ls (lv_sub hl [1, 2, 3, 4, 0] rfl) res hR
      · rw [if_neg c23] at hR
        refine lv_iload_n hx hb d_VE_missingCell_26 rfl (lv_at hl 3 rfl) ?_
        refine lv_iload_n hx hb d_VE_missingCell_27 rfl (lv_at hl 2 rfl) ?_
        refine lv_icmp_ne (tgt := 34) hx hb d_VE_missingCell_28 (by decide) (fun c28 => ?_) (fun c28 => ?_)
        · rw [if_neg c28] at hR
          refine lv_iinc (v := (x3 + 1)) (lv' := [(3, .int (x3 + 1)), (0, .ref (xB s0 + XA 9 i)), (1, .ref (xB s0 + XA 5 kk)), (2, .int q), (4, .int x4)]) hx hb d_VE_missingCell_34 hl (k := 3) rfl rfl (by decide) rfl (fun ls hl => ?_)
          refine lv_iinc (v := (x4 + 1)) (lv' := [(4, .int (x4 + 1)), (3, .int (x3 + 1)), (0, .ref (xB s0 + XA 9 i)), (1, .ref (xB s0 + XA 5 kk)), (2, .int q)]) hx hb d_VE_missingCell_37 hl (k := 4) rfl rfl (by decide) rfl (fun ls hl => ?_)
          refine lv_goto (tgt := 5) hx hb d_VE_missingCell_40 (by decide) ?_
          exact ih σ i kk q (x3 + 1) (x4 + 1) (k + 1) (by rw [e_x4]; exact nI_1 k) (by omega) (by omega) hi_i hi_kk  hX ls (lv_sub hl [2, 3, 4, 1, 0] rfl) res hR
        · rw [if_pos c28] at hR
          refine lv_iload hx hb d_VE_missingCell_31 (lv_at hl 4 rfl) ?_
          subst hR
          refine W.widen (k := 0) (n := 0) (by decide) (by decide) ?_; exact xr_i hx hb hr hlocks d_VE_missingCell_33
set_option maxHeartbeats 4000000 in
set_option maxRecDepth 100000 in
theorem c_VE_missingCell {l : Launch} {s0 : State} {A0 : Array Value} {D : va_G} {dA : Nat → ClassId} (h0 : XS0 l s0 A0 D dA) (σ : XS) (i : Nat) (kk : Nat) (q : Int32) (hi_i : i < 16) (hi_kk : kk < 6) : XMet l y_VE_missingCell [cw_VE_missingCell] rm_VE_missingCell (XP D dA s0 σ [.ref (xB s0 + XA 9 i), .ref (xB s0 + XA 5 kk), .int q]) (XQp xv_i (.inl (S_VE_missingCell σ i kk q))) 0 0 (fun _ => False) := by
  refine XMet.ofW (cc := b_VE_missingCell) (maxL := 5) (ret := (some .int)) (by decide) rfl ?_
  intro p e s m args below meth c s₁ Bd hml hvA
  obtain ⟨rfl, hX, hO⟩ := hvA
  have hx := Bd.exec
  have hb := Bd.bytes
  have hr := Bd.returns
  have hown : s.vm.findClass "LoadChecks$Vehicle" = some m.cls := findClass_of_methodNamed Bd.named
  have hlocks := Bd.notSynchronized
  have hnt : c.exceptionTable.isEmpty = true := Bd.noHandlers (atoms_spec (ws := [cw_VE_missingCell]) Bd.pre _ List.mem_cons_self)
  have hW0 := hO.1
  have hts := xs_w (args := ([.ref (xB s0 + XA 9 i), .ref (xB s0 + XA 5 kk), .int q] : List Value).toArray) h0 hW0
  have hK := xs_K h0 hW0
  have hl := lv_entry ([.ref (xB s0 + XA 9 i), .ref (xB s0 + XA 5 kk), .int q]) (n := 5) (Nat.le_of_ble_eq_true rfl)
  rw [lg_entry_eq]
  generalize (lg_sl ([.ref (xB s0 + XA 9 i), .ref (xB s0 + XA 5 kk), .int q]) ++ List.replicate (5 - (lg_sl ([.ref (xB s0 + XA 9 i), .ref (xB s0 + XA 5 kk), .int q])).length) Slot.unset).toArray = ls at hl ⊢
  have hl : lv_has ls 5 [(0, .ref (xB s0 + XA 9 i)), (1, .ref (xB s0 + XA 5 kk)), (2, .int q)] := hl
  generalize hR : S_VE_missingCell σ i kk q = res
  unfold S_VE_missingCell at hR
  refine lv_iconst (v := 0) hx hb d_VE_missingCell_0 (by decide) ?_
  refine lv_istore_n (lv' := [(3, .int (0 : Int32)), (0, .ref (xB s0 + XA 9 i)), (1, .ref (xB s0 + XA 5 kk)), (2, .int q)]) hx hb d_VE_missingCell_1 rfl hl (by decide) rfl (fun ls hl => ?_)
  refine lv_iconst (v := 0) hx hb d_VE_missingCell_2 (by decide) ?_
  refine lv_istore (lv' := [(4, .int (0 : Int32)), (3, .int (0 : Int32)), (0, .ref (xB s0 + XA 9 i)), (1, .ref (xB s0 + XA 5 kk)), (2, .int q)]) hx hb d_VE_missingCell_3 hl (by decide) rfl (fun ls hl => ?_)
  exact l_VE_missingCell h0 hx hb hr hml hown hlocks hnt hO 241 σ i kk q (0 : Int32) (0 : Int32) 0 nI_0.symm rfl (by decide) hi_i hi_kk  hX ls (lv_sub hl [2, 3, 4, 1, 0] rfl) res hR

abbrev rm_VE_hasBrokenSeal : Room := { frames := 0, cells := 0, slots := 0, locals := 0 }
def L_VE_hasBrokenSeal : Nat → XS → Nat → Int32 → Int32
  | 0, _, _, _ => default
  | n + 1, σ, i, x1 => (if (8 : Int32) ≤ x1 then (0 : Int32) else (if (σ.1 11 i x1.toNatClampNeg) = 0 then (L_VE_hasBrokenSeal n σ i (x1 + 1)) else (1 : Int32)))
def S_VE_hasBrokenSeal (σ : XS) (i : Nat) : Int32 := (L_VE_hasBrokenSeal 9 σ i (0 : Int32))
set_option maxHeartbeats 4000000 in
set_option maxRecDepth 100000 in
theorem l_VE_hasBrokenSeal {l : Launch} {s0 : State} {A0 : Array Value} {D : va_G} {dA : Nat → ClassId} (h0 : XS0 l s0 A0 D dA) {p : Program} {e : Env} {s : State} {m : MethodId} {args : Array Value} {below : List Frame} {meth : Method} {c : Code} (hx : p.tables.exec = Jvm.exec) (hb : c.code = b_VE_hasBrokenSeal) (hr : meth.sig.returnType = (some .boolean)) (hml : c.maxLocals = 2) (hown : s.vm.findClass "LoadChecks$Vehicle" = some m.cls) (hlocks : meth.locks = false) (hnt : c.exceptionTable.isEmpty = true) (hO : XO s0 s s.heap) :
    ∀ (n : Nat) (σ : XS) (i : Nat) (x1 : Int32) (k : Nat), x1 = nI k → k + n = 9 → k < 9 → i < 16 → XWs D dA s0 σ s.heap → ∀ (ls : Array Slot), lv_has ls 2 [(0, .ref (xB s0 + XA 9 i)), (1, .int x1)] → ∀ res, L_VE_hasBrokenSeal n σ i x1 = res →
    W p l e rm_VE_hasBrokenSeal s m args below meth c s.heap [] 0 0 (XMQ below (XQp xv_i (.inl res)) args s 0 0 (fun _ => False)) (F0 m 2 ls []) := by
  have hW0 := hO.1
  have hts := xs_w (args := args) h0 hW0
  have hK := xs_K h0 hW0
  intro n
  induction n with
  | zero =>
    intro σ i x1 k e1 h2 h3
    exact absurd h2 (by omega)
  | succ n ih =>
    intro σ i x1 k e_x1 hkn hkF hi_i hX ls hl res hR
    rw [L_VE_hasBrokenSeal] at hR
    refine lv_iload_n hx hb d_VE_hasBrokenSeal_2 rfl (lv_at hl 1 rfl) ?_
    refine lv_bipush (v := 8) hx hb d_VE_hasBrokenSeal_3 (by decide) ?_
    refine lv_icmp_ge (tgt := 25) hx hb d_VE_hasBrokenSeal_5 (by decide) (fun c5 => ?_) (fun c5 => ?_)
    · rw [if_pos c5] at hR
      refine lv_iconst (v := 0) hx hb d_VE_hasBrokenSeal_25 (by decide) ?_
      subst hR
      refine W.widen (k := 0) (n := 0) (by decide) (by decide) ?_; exact xr_z hx hb hr hlocks (by rfl) d_VE_hasBrokenSeal_26
    · rw [if_neg c5] at hR
      have hk : k < 8 := x_klt (b := 8) rfl (by decide) (by omega) e_x1 c5
      refine lv_aload_n hx hb d_VE_hasBrokenSeal_8 rfl (lv_at hl 0 rfl) ?_
      refine xw_get (C := R_VE) (T := F_VE) (N := 13) (r := 9) (i := i) hx hb hts hi_VE hown hK hX hi_i rfl rfl 1 (by decide) (hts _ w_84) rfl rfl d_VE_hasBrokenSeal_9 ?_
      refine lv_iload_n hx hb d_VE_hasBrokenSeal_12 rfl (lv_at hl 1 rfl) ?_
      refine xw_zald (r := 11) (i := i) hx hb hK hX hi_i 1 rfl rfl (j := x1) (o_nI e_x1 hk (by decide)) d_VE_hasBrokenSeal_13 ?_
      refine lv_if_eq (tgt := 19) hx hb d_VE_hasBrokenSeal_14 (by decide) (fun c14 => ?_) (fun c14 => ?_)
      · rw [if_pos c14] at hR
        refine lv_iinc (v := (x1 + 1)) (lv' := [(1, .int (x1 + 1)), (0, .ref (xB s0 + XA 9 i))]) hx hb d_VE_hasBrokenSeal_19 hl (k := 1) rfl rfl (by decide) rfl (fun ls hl => ?_)
        refine lv_goto (tgt := 2) hx hb d_VE_hasBrokenSeal_22 (by decide) ?_
        exact ih σ i (x1 + 1) (k + 1) (by rw [e_x1]; exact nI_1 k) (by omega) (by omega) hi_i  hX ls (lv_sub hl [1, 0] rfl) res hR
      · rw [if_neg c14] at hR
        refine lv_iconst (v := 1) hx hb d_VE_hasBrokenSeal_17 (by decide) ?_
        subst hR
        refine W.widen (k := 0) (n := 0) (by decide) (by decide) ?_; exact xr_z hx hb hr hlocks (by rfl) d_VE_hasBrokenSeal_18
set_option maxHeartbeats 4000000 in
set_option maxRecDepth 100000 in
theorem c_VE_hasBrokenSeal {l : Launch} {s0 : State} {A0 : Array Value} {D : va_G} {dA : Nat → ClassId} (h0 : XS0 l s0 A0 D dA) (σ : XS) (i : Nat) (hi_i : i < 16) : XMet l y_VE_hasBrokenSeal [cw_VE_hasBrokenSeal] rm_VE_hasBrokenSeal (XP D dA s0 σ [.ref (xB s0 + XA 9 i)]) (XQp xv_i (.inl (S_VE_hasBrokenSeal σ i))) 0 0 (fun _ => False) := by
  refine XMet.ofW (cc := b_VE_hasBrokenSeal) (maxL := 2) (ret := (some .boolean)) (by decide) rfl ?_
  intro p e s m args below meth c s₁ Bd hml hvA
  obtain ⟨rfl, hX, hO⟩ := hvA
  have hx := Bd.exec
  have hb := Bd.bytes
  have hr := Bd.returns
  have hown : s.vm.findClass "LoadChecks$Vehicle" = some m.cls := findClass_of_methodNamed Bd.named
  have hlocks := Bd.notSynchronized
  have hnt : c.exceptionTable.isEmpty = true := Bd.noHandlers (atoms_spec (ws := [cw_VE_hasBrokenSeal]) Bd.pre _ List.mem_cons_self)
  have hW0 := hO.1
  have hts := xs_w (args := ([.ref (xB s0 + XA 9 i)] : List Value).toArray) h0 hW0
  have hK := xs_K h0 hW0
  have hl := lv_entry ([.ref (xB s0 + XA 9 i)]) (n := 2) (Nat.le_of_ble_eq_true rfl)
  rw [lg_entry_eq]
  generalize (lg_sl ([.ref (xB s0 + XA 9 i)]) ++ List.replicate (2 - (lg_sl ([.ref (xB s0 + XA 9 i)])).length) Slot.unset).toArray = ls at hl ⊢
  have hl : lv_has ls 2 [(0, .ref (xB s0 + XA 9 i))] := hl
  generalize hR : S_VE_hasBrokenSeal σ i = res
  unfold S_VE_hasBrokenSeal at hR
  refine lv_iconst (v := 0) hx hb d_VE_hasBrokenSeal_0 (by decide) ?_
  refine lv_istore_n (lv' := [(1, .int (0 : Int32)), (0, .ref (xB s0 + XA 9 i))]) hx hb d_VE_hasBrokenSeal_1 rfl hl (by decide) rfl (fun ls hl => ?_)
  exact l_VE_hasBrokenSeal h0 hx hb hr hml hown hlocks hnt hO 9 σ i (0 : Int32) 0 nI_0.symm rfl (by decide) hi_i  hX ls (lv_sub hl [1, 0] rfl) res hR

abbrev rm_VE_needsPastItem : Room := { frames := 0, cells := 0, slots := 0, locals := 0 }
def L_VE_needsPastItem : Nat → XS → Nat → Nat → Int32 → Int32 → Int32
  | 0, _, _, _, _, _ => default
  | n + 1, σ, i, kk, day, x3 => (if (240 : Int32) ≤ x3 then (0 : Int32) else (if (σ.1 5 kk x3.toNatClampNeg) ≤ 0 then (L_VE_needsPastItem n σ i kk day (x3 + 1)) else (if (σ.1 13 i (x3 - x3 / (30 : Int32) * (30 : Int32)).toNatClampNeg) = (-1 : Int32) then (L_VE_needsPastItem n σ i kk day (x3 + 1)) else (if day < (σ.1 13 i (x3 - x3 / (30 : Int32) * (30 : Int32)).toNatClampNeg) then (L_VE_needsPastItem n σ i kk day (x3 + 1)) else (1 : Int32)))))
def S_VE_needsPastItem (σ : XS) (i : Nat) (kk : Nat) (day : Int32) : Int32 := (L_VE_needsPastItem 241 σ i kk day (0 : Int32))
set_option maxHeartbeats 4000000 in
set_option maxRecDepth 100000 in
theorem l_VE_needsPastItem {l : Launch} {s0 : State} {A0 : Array Value} {D : va_G} {dA : Nat → ClassId} (h0 : XS0 l s0 A0 D dA) {p : Program} {e : Env} {s : State} {m : MethodId} {args : Array Value} {below : List Frame} {meth : Method} {c : Code} (hx : p.tables.exec = Jvm.exec) (hb : c.code = b_VE_needsPastItem) (hr : meth.sig.returnType = (some .boolean)) (hml : c.maxLocals = 5) (hown : s.vm.findClass "LoadChecks$Vehicle" = some m.cls) (hlocks : meth.locks = false) (hnt : c.exceptionTable.isEmpty = true) (hO : XO s0 s s.heap) :
    ∀ (n : Nat) (σ : XS) (i : Nat) (kk : Nat) (day : Int32) (x3 : Int32) (k : Nat), x3 = nI k → k + n = 241 → k < 241 → i < 16 → kk < 6 → XWs D dA s0 σ s.heap → ∀ (ls : Array Slot), lv_has ls 5 [(0, .ref (xB s0 + XA 9 i)), (1, .ref (xB s0 + XA 5 kk)), (2, .int day), (3, .int x3)] → ∀ res, L_VE_needsPastItem n σ i kk day x3 = res →
    W p l e rm_VE_needsPastItem s m args below meth c s.heap [] 0 0 (XMQ below (XQp xv_i (.inl res)) args s 0 0 (fun _ => False)) (F0 m 2 ls []) := by
  have hW0 := hO.1
  have hts := xs_w (args := args) h0 hW0
  have hK := xs_K h0 hW0
  intro n
  induction n with
  | zero =>
    intro σ i kk day x3 k e1 h2 h3
    exact absurd h2 (by omega)
  | succ n ih =>
    intro σ i kk day x3 k e_x3 hkn hkF hi_i hi_kk hX ls hl res hR
    rw [L_VE_needsPastItem] at hR
    refine lv_iload_n hx hb d_VE_needsPastItem_2 rfl (lv_at hl 3 rfl) ?_
    refine lv_sipush (v := 240) hx hb d_VE_needsPastItem_3 (by decide) ?_
    refine lv_icmp_ge (tgt := 46) hx hb d_VE_needsPastItem_6 (by decide) (fun c6 => ?_) (fun c6 => ?_)
    · rw [if_pos c6] at hR
      refine lv_iconst (v := 0) hx hb d_VE_needsPastItem_46 (by decide) ?_
      subst hR
      refine W.widen (k := 0) (n := 0) (by decide) (by decide) ?_; exact xr_z hx hb hr hlocks (by rfl) d_VE_needsPastItem_47
    · rw [if_neg c6] at hR
      have hk : k < 240 := x_klt (b := 240) rfl (by decide) (by omega) e_x3 c6
      have hcx : vp_in x3 240 := o_nI e_x3 hk (by decide)
      refine lv_aload_n hx hb d_VE_needsPastItem_9 rfl (lv_at hl 0 rfl) ?_
      refine xw_get (C := R_VE) (T := F_VE) (N := 13) (r := 9) (i := i) hx hb hts hi_VE hown hK hX hi_i rfl rfl 3 (by decide) (hts _ w_88) rfl rfl d_VE_needsPastItem_10 ?_
      refine lv_iload_n hx hb d_VE_needsPastItem_13 rfl (lv_at hl 3 rfl) ?_
      refine lv_bipush (v := 30) hx hb d_VE_needsPastItem_14 (by decide) ?_
      refine lv_irem hx hb d_VE_needsPastItem_16 (by decide) ?_
      refine xw_iald (r := 13) (i := i) hx hb hK hX hi_i 0 rfl rfl (j := (x3 - x3 / (30 : Int32) * (30 : Int32))) (o_rem hcx) d_VE_needsPastItem_17 ?_
      refine lv_istore (lv' := [(4, .int (σ.1 13 i (x3 - x3 / (30 : Int32) * (30 : Int32)).toNatClampNeg)), (0, .ref (xB s0 + XA 9 i)), (1, .ref (xB s0 + XA 5 kk)), (2, .int day), (3, .int x3)]) hx hb d_VE_needsPastItem_18 hl (by decide) rfl (fun ls hl => ?_)
      refine lv_aload_n hx hb d_VE_needsPastItem_20 rfl (lv_at hl 2 rfl) ?_
      refine lv_iload_n hx hb d_VE_needsPastItem_21 rfl (lv_at hl 4 rfl) ?_
      refine xw_iald (r := 5) (i := kk) hx hb hK hX hi_kk 0 rfl rfl (j := x3) hcx d_VE_needsPastItem_22 ?_
      refine lv_if_le (tgt := 40) hx hb d_VE_needsPastItem_23 (by decide) (fun c23 => ?_) (fun c23 => ?_)
      · rw [if_pos c23] at hR
        refine lv_iinc (v := (x3 + 1)) (lv' := [(3, .int (x3 + 1)), (4, .int (σ.1 13 i (x3 - x3 / (30 : Int32) * (30 : Int32)).toNatClampNeg)), (0, .ref (xB s0 + XA 9 i)), (1, .ref (xB s0 + XA 5 kk)), (2, .int day)]) hx hb d_VE_needsPastItem_40 hl (k := 4) rfl rfl (by decide) rfl (fun ls hl => ?_)
        refine lv_goto (tgt := 2) hx hb d_VE_needsPastItem_43 (by decide) ?_
        exact ih σ i kk day (x3 + 1) (k + 1) (by rw [e_x3]; exact nI_1 k) (by omega) (by omega) hi_i hi_kk  hX ls (lv_sub hl [2, 3, 4, 0] rfl) res hR
      · rw [if_neg c23] at hR
        refine lv_iload hx hb d_VE_needsPastItem_26 (lv_at hl 0 rfl) ?_
        refine lv_iconst (v := -1) hx hb d_VE_needsPastItem_28 (by decide) ?_
        refine lv_icmp_eq (tgt := 40) hx hb d_VE_needsPastItem_29 (by decide) (fun c29 => ?_) (fun c29 => ?_)
        · rw [if_pos c29] at hR
          refine lv_iinc (v := (x3 + 1)) (lv' := [(3, .int (x3 + 1)), (4, .int (σ.1 13 i (x3 - x3 / (30 : Int32) * (30 : Int32)).toNatClampNeg)), (0, .ref (xB s0 + XA 9 i)), (1, .ref (xB s0 + XA 5 kk)), (2, .int day)]) hx hb d_VE_needsPastItem_40 hl (k := 4) rfl rfl (by decide) rfl (fun ls hl => ?_)
          refine lv_goto (tgt := 2) hx hb d_VE_needsPastItem_43 (by decide) ?_
          exact ih σ i kk day (x3 + 1) (k + 1) (by rw [e_x3]; exact nI_1 k) (by omega) (by omega) hi_i hi_kk  hX ls (lv_sub hl [2, 3, 4, 0] rfl) res hR
        · rw [if_neg c29] at hR
          refine lv_iload_n hx hb d_VE_needsPastItem_32 rfl (lv_at hl 3 rfl) ?_
          refine lv_iload hx hb d_VE_needsPastItem_33 (lv_at hl 0 rfl) ?_
          refine lv_icmp_lt (tgt := 40) hx hb d_VE_needsPastItem_35 (by decide) (fun c35 => ?_) (fun c35 => ?_)
          · rw [if_pos c35] at hR
            refine lv_iinc (v := (x3 + 1)) (lv' := [(3, .int (x3 + 1)), (4, .int (σ.1 13 i (x3 - x3 / (30 : Int32) * (30 : Int32)).toNatClampNeg)), (0, .ref (xB s0 + XA 9 i)), (1, .ref (xB s0 + XA 5 kk)), (2, .int day)]) hx hb d_VE_needsPastItem_40 hl (k := 4) rfl rfl (by decide) rfl (fun ls hl => ?_)
            refine lv_goto (tgt := 2) hx hb d_VE_needsPastItem_43 (by decide) ?_
            exact ih σ i kk day (x3 + 1) (k + 1) (by rw [e_x3]; exact nI_1 k) (by omega) (by omega) hi_i hi_kk  hX ls (lv_sub hl [2, 3, 4, 0] rfl) res hR
          · rw [if_neg c35] at hR
            refine lv_iconst (v := 1) hx hb d_VE_needsPastItem_38 (by decide) ?_
            subst hR
            refine W.widen (k := 0) (n := 0) (by decide) (by decide) ?_; exact xr_z hx hb hr hlocks (by rfl) d_VE_needsPastItem_39
set_option maxHeartbeats 4000000 in
set_option maxRecDepth 100000 in
theorem c_VE_needsPastItem {l : Launch} {s0 : State} {A0 : Array Value} {D : va_G} {dA : Nat → ClassId} (h0 : XS0 l s0 A0 D dA) (σ : XS) (i : Nat) (kk : Nat) (day : Int32) (hi_i : i < 16) (hi_kk : kk < 6) : XMet l y_VE_needsPastItem [cw_VE_needsPastItem] rm_VE_needsPastItem (XP D dA s0 σ [.ref (xB s0 + XA 9 i), .ref (xB s0 + XA 5 kk), .int day]) (XQp xv_i (.inl (S_VE_needsPastItem σ i kk day))) 0 0 (fun _ => False) := by
  refine XMet.ofW (cc := b_VE_needsPastItem) (maxL := 5) (ret := (some .boolean)) (by decide) rfl ?_
  intro p e s m args below meth c s₁ Bd hml hvA
  obtain ⟨rfl, hX, hO⟩ := hvA
  have hx := Bd.exec
  have hb := Bd.bytes
  have hr := Bd.returns
  have hown : s.vm.findClass "LoadChecks$Vehicle" = some m.cls := findClass_of_methodNamed Bd.named
  have hlocks := Bd.notSynchronized
  have hnt : c.exceptionTable.isEmpty = true := Bd.noHandlers (atoms_spec (ws := [cw_VE_needsPastItem]) Bd.pre _ List.mem_cons_self)
  have hW0 := hO.1
  have hts := xs_w (args := ([.ref (xB s0 + XA 9 i), .ref (xB s0 + XA 5 kk), .int day] : List Value).toArray) h0 hW0
  have hK := xs_K h0 hW0
  have hl := lv_entry ([.ref (xB s0 + XA 9 i), .ref (xB s0 + XA 5 kk), .int day]) (n := 5) (Nat.le_of_ble_eq_true rfl)
  rw [lg_entry_eq]
  generalize (lg_sl ([.ref (xB s0 + XA 9 i), .ref (xB s0 + XA 5 kk), .int day]) ++ List.replicate (5 - (lg_sl ([.ref (xB s0 + XA 9 i), .ref (xB s0 + XA 5 kk), .int day])).length) Slot.unset).toArray = ls at hl ⊢
  have hl : lv_has ls 5 [(0, .ref (xB s0 + XA 9 i)), (1, .ref (xB s0 + XA 5 kk)), (2, .int day)] := hl
  generalize hR : S_VE_needsPastItem σ i kk day = res
  unfold S_VE_needsPastItem at hR
  refine lv_iconst (v := 0) hx hb d_VE_needsPastItem_0 (by decide) ?_
  refine lv_istore_n (lv' := [(3, .int (0 : Int32)), (0, .ref (xB s0 + XA 9 i)), (1, .ref (xB s0 + XA 5 kk)), (2, .int day)]) hx hb d_VE_needsPastItem_1 rfl hl (by decide) rfl (fun ls hl => ?_)
  exact l_VE_needsPastItem h0 hx hb hr hml hown hlocks hnt hO 241 σ i kk day (0 : Int32) 0 nI_0.symm rfl (by decide) hi_i hi_kk  hX ls (lv_sub hl [1, 2, 3, 0] rfl) res hR

abbrev rm_VE_needsWeakItem : Room := { frames := 0, cells := 0, slots := 0, locals := 0 }
def L_VE_needsWeakItem : Nat → XS → Nat → Nat → Int32 → Int32
  | 0, _, _, _, _ => default
  | n + 1, σ, i, kk, x3 => (if (240 : Int32) ≤ x3 then (0 : Int32) else (if (σ.1 5 kk x3.toNatClampNeg) ≤ 0 then (L_VE_needsWeakItem n σ i kk (x3 + 1)) else (if (σ.1 2 0 (x3 - x3 / (30 : Int32) * (30 : Int32)).toNatClampNeg) ≤ (σ.1 14 i (x3 - x3 / (30 : Int32) * (30 : Int32)).toNatClampNeg) then (L_VE_needsWeakItem n σ i kk (x3 + 1)) else (1 : Int32))))
def S_VE_needsWeakItem (σ : XS) (i : Nat) (kk : Nat) : Int32 := (L_VE_needsWeakItem 241 σ i kk (0 : Int32))
set_option maxHeartbeats 4000000 in
set_option maxRecDepth 100000 in
theorem l_VE_needsWeakItem {l : Launch} {s0 : State} {A0 : Array Value} {D : va_G} {dA : Nat → ClassId} (h0 : XS0 l s0 A0 D dA) {p : Program} {e : Env} {s : State} {m : MethodId} {args : Array Value} {below : List Frame} {meth : Method} {c : Code} (hx : p.tables.exec = Jvm.exec) (hb : c.code = b_VE_needsWeakItem) (hr : meth.sig.returnType = (some .boolean)) (hml : c.maxLocals = 5) (hown : s.vm.findClass "LoadChecks$Vehicle" = some m.cls) (hlocks : meth.locks = false) (hnt : c.exceptionTable.isEmpty = true) (hO : XO s0 s s.heap) :
    ∀ (n : Nat) (σ : XS) (i : Nat) (kk : Nat) (x3 : Int32) (k : Nat), x3 = nI k → k + n = 241 → k < 241 → i < 16 → kk < 6 → XWs D dA s0 σ s.heap → ∀ (ls : Array Slot), lv_has ls 5 [(0, .ref (xB s0 + XA 9 i)), (1, .ref (xB s0 + XA 5 kk)), (2, .ref (xB s0 + XA 2 0)), (3, .int x3)] → ∀ res, L_VE_needsWeakItem n σ i kk x3 = res →
    W p l e rm_VE_needsWeakItem s m args below meth c s.heap [] 0 0 (XMQ below (XQp xv_i (.inl res)) args s 0 0 (fun _ => False)) (F0 m 2 ls []) := by
  have hW0 := hO.1
  have hts := xs_w (args := args) h0 hW0
  have hK := xs_K h0 hW0
  intro n
  induction n with
  | zero =>
    intro σ i kk x3 k e1 h2 h3
    exact absurd h2 (by omega)
  | succ n ih =>
    intro σ i kk x3 k e_x3 hkn hkF hi_i hi_kk hX ls hl res hR
    rw [L_VE_needsWeakItem] at hR
    refine lv_iload_n hx hb d_VE_needsWeakItem_2 rfl (lv_at hl 3 rfl) ?_
    refine lv_sipush (v := 240) hx hb d_VE_needsWeakItem_3 (by decide) ?_
    refine lv_icmp_ge (tgt := 43) hx hb d_VE_needsWeakItem_6 (by decide) (fun c6 => ?_) (fun c6 => ?_)
    · rw [if_pos c6] at hR
      refine lv_iconst (v := 0) hx hb d_VE_needsWeakItem_43 (by decide) ?_
      subst hR
      refine W.widen (k := 0) (n := 0) (by decide) (by decide) ?_; exact xr_z hx hb hr hlocks (by rfl) d_VE_needsWeakItem_44
    · rw [if_neg c6] at hR
      have hk : k < 240 := x_klt (b := 240) rfl (by decide) (by omega) e_x3 c6
      have hcx : vp_in x3 240 := o_nI e_x3 hk (by decide)
      refine lv_iload_n hx hb d_VE_needsWeakItem_9 rfl (lv_at hl 3 rfl) ?_
      refine lv_bipush (v := 30) hx hb d_VE_needsWeakItem_10 (by decide) ?_
      refine lv_irem hx hb d_VE_needsWeakItem_12 (by decide) ?_
      refine lv_istore (lv' := [(4, .int (x3 - x3 / (30 : Int32) * (30 : Int32))), (0, .ref (xB s0 + XA 9 i)), (1, .ref (xB s0 + XA 5 kk)), (2, .ref (xB s0 + XA 2 0)), (3, .int x3)]) hx hb d_VE_needsWeakItem_13 hl (by decide) rfl (fun ls hl => ?_)
      refine lv_aload_n hx hb d_VE_needsWeakItem_15 rfl (lv_at hl 2 rfl) ?_
      refine lv_iload_n hx hb d_VE_needsWeakItem_16 rfl (lv_at hl 4 rfl) ?_
      refine xw_iald (r := 5) (i := kk) hx hb hK hX hi_kk 0 rfl rfl (j := x3) hcx d_VE_needsWeakItem_17 ?_
      refine lv_if_le (tgt := 37) hx hb d_VE_needsWeakItem_18 (by decide) (fun c18 => ?_) (fun c18 => ?_)
      · rw [if_pos c18] at hR
        refine lv_iinc (v := (x3 + 1)) (lv' := [(3, .int (x3 + 1)), (4, .int (x3 - x3 / (30 : Int32) * (30 : Int32))), (0, .ref (xB s0 + XA 9 i)), (1, .ref (xB s0 + XA 5 kk)), (2, .ref (xB s0 + XA 2 0))]) hx hb d_VE_needsWeakItem_37 hl (k := 4) rfl rfl (by decide) rfl (fun ls hl => ?_)
        refine lv_goto (tgt := 2) hx hb d_VE_needsWeakItem_40 (by decide) ?_
        exact ih σ i kk (x3 + 1) (k + 1) (by rw [e_x3]; exact nI_1 k) (by omega) (by omega) hi_i hi_kk  hX ls (lv_sub hl [2, 3, 4, 0] rfl) res hR
      · rw [if_neg c18] at hR
        refine lv_aload_n hx hb d_VE_needsWeakItem_21 rfl (lv_at hl 1 rfl) ?_
        refine xw_get (C := R_VE) (T := F_VE) (N := 13) (r := 9) (i := i) hx hb hts hi_VE hown hK hX hi_i rfl rfl 4 (by decide) (hts _ w_90) rfl rfl d_VE_needsWeakItem_22 ?_
        refine lv_iload hx hb d_VE_needsWeakItem_25 (lv_at hl 0 rfl) ?_
        refine xw_iald (r := 14) (i := i) hx hb hK hX hi_i 0 rfl rfl (j := (x3 - x3 / (30 : Int32) * (30 : Int32))) (o_rem hcx) d_VE_needsWeakItem_27 ?_
        refine lv_aload_n hx hb d_VE_needsWeakItem_28 rfl (lv_at hl 3 rfl) ?_
        refine lv_iload hx hb d_VE_needsWeakItem_29 (lv_at hl 0 rfl) ?_
        refine xw_iald (r := 2) (i := 0) hx hb hK hX (by decide) 0 rfl rfl (j := (x3 - x3 / (30 : Int32) * (30 : Int32))) (o_rem hcx) d_VE_needsWeakItem_31 ?_
        refine lv_icmp_ge (tgt := 37) hx hb d_VE_needsWeakItem_32 (by decide) (fun c32 => ?_) (fun c32 => ?_)
        · rw [if_pos c32] at hR
          refine lv_iinc (v := (x3 + 1)) (lv' := [(3, .int (x3 + 1)), (4, .int (x3 - x3 / (30 : Int32) * (30 : Int32))), (0, .ref (xB s0 + XA 9 i)), (1, .ref (xB s0 + XA 5 kk)), (2, .ref (xB s0 + XA 2 0))]) hx hb d_VE_needsWeakItem_37 hl (k := 4) rfl rfl (by decide) rfl (fun ls hl => ?_)
          refine lv_goto (tgt := 2) hx hb d_VE_needsWeakItem_40 (by decide) ?_
          exact ih σ i kk (x3 + 1) (k + 1) (by rw [e_x3]; exact nI_1 k) (by omega) (by omega) hi_i hi_kk  hX ls (lv_sub hl [2, 3, 4, 0] rfl) res hR
        · rw [if_neg c32] at hR
          refine lv_iconst (v := 1) hx hb d_VE_needsWeakItem_35 (by decide) ?_
          subst hR
          refine W.widen (k := 0) (n := 0) (by decide) (by decide) ?_; exact xr_z hx hb hr hlocks (by rfl) d_VE_needsWeakItem_36
set_option maxHeartbeats 4000000 in
set_option maxRecDepth 100000 in
theorem c_VE_needsWeakItem {l : Launch} {s0 : State} {A0 : Array Value} {D : va_G} {dA : Nat → ClassId} (h0 : XS0 l s0 A0 D dA) (σ : XS) (i : Nat) (kk : Nat) (hi_i : i < 16) (hi_kk : kk < 6) : XMet l y_VE_needsWeakItem [cw_VE_needsWeakItem] rm_VE_needsWeakItem (XP D dA s0 σ [.ref (xB s0 + XA 9 i), .ref (xB s0 + XA 5 kk), .ref (xB s0 + XA 2 0)]) (XQp xv_i (.inl (S_VE_needsWeakItem σ i kk))) 0 0 (fun _ => False) := by
  refine XMet.ofW (cc := b_VE_needsWeakItem) (maxL := 5) (ret := (some .boolean)) (by decide) rfl ?_
  intro p e s m args below meth c s₁ Bd hml hvA
  obtain ⟨rfl, hX, hO⟩ := hvA
  have hx := Bd.exec
  have hb := Bd.bytes
  have hr := Bd.returns
  have hown : s.vm.findClass "LoadChecks$Vehicle" = some m.cls := findClass_of_methodNamed Bd.named
  have hlocks := Bd.notSynchronized
  have hnt : c.exceptionTable.isEmpty = true := Bd.noHandlers (atoms_spec (ws := [cw_VE_needsWeakItem]) Bd.pre _ List.mem_cons_self)
  have hW0 := hO.1
  have hts := xs_w (args := ([.ref (xB s0 + XA 9 i), .ref (xB s0 + XA 5 kk), .ref (xB s0 + XA 2 0)] : List Value).toArray) h0 hW0
  have hK := xs_K h0 hW0
  have hl := lv_entry ([.ref (xB s0 + XA 9 i), .ref (xB s0 + XA 5 kk), .ref (xB s0 + XA 2 0)]) (n := 5) (Nat.le_of_ble_eq_true rfl)
  rw [lg_entry_eq]
  generalize (lg_sl ([.ref (xB s0 + XA 9 i), .ref (xB s0 + XA 5 kk), .ref (xB s0 + XA 2 0)]) ++ List.replicate (5 - (lg_sl ([.ref (xB s0 + XA 9 i), .ref (xB s0 + XA 5 kk), .ref (xB s0 + XA 2 0)])).length) Slot.unset).toArray = ls at hl ⊢
  have hl : lv_has ls 5 [(0, .ref (xB s0 + XA 9 i)), (1, .ref (xB s0 + XA 5 kk)), (2, .ref (xB s0 + XA 2 0))] := hl
  generalize hR : S_VE_needsWeakItem σ i kk = res
  unfold S_VE_needsWeakItem at hR
  refine lv_iconst (v := 0) hx hb d_VE_needsWeakItem_0 (by decide) ?_
  refine lv_istore_n (lv' := [(3, .int (0 : Int32)), (0, .ref (xB s0 + XA 9 i)), (1, .ref (xB s0 + XA 5 kk)), (2, .ref (xB s0 + XA 2 0))]) hx hb d_VE_needsWeakItem_1 rfl hl (by decide) rfl (fun ls hl => ?_)
  exact l_VE_needsWeakItem h0 hx hb hr hml hown hlocks hnt hO 241 σ i kk (0 : Int32) 0 nI_0.symm rfl (by decide) hi_i hi_kk  hX ls (lv_sub hl [1, 2, 3, 0] rfl) res hR
