abbrev rm_MO_put : Room := { frames := 4, cells := 0, slots := 0, locals := 97 }
def S_MO_put (σ : XS) (v : Int32) (cu : Int32) (it : Int32) (n : Int32) : Int32 × XS := (if (S_MO_isThing σ v cu it) = 0 then (if (S_MO_in σ n (1 : Int32) (99 : Int32)) = 0 then ((0 : Int32), (S_MO_throwing σ (1 : Int32) (1 : Int32) (0 : Int32) (0 : Int32)).2) else ((0 : Int32), (S_MO_throwing σ (1 : Int32) (0 : Int32) (0 : Int32) (0 : Int32)).2)) else (if (S_MO_in σ n (1 : Int32) (99 : Int32)) = 0 then ((0 : Int32), (S_MO_throwing σ (0 : Int32) (1 : Int32) (0 : Int32) (0 : Int32)).2) else (if (S_MO_isTooMuch σ v cu it n).1 = 0 then (if ((σ.1 28 0 ((((240 : Int32) * v) + ((30 : Int32) * cu)) + it).toNatClampNeg) + n) ≤ (99 : Int32) then (((xuI (S_MO_throwing σ (0 : Int32) (0 : Int32) (0 : Int32) (0 : Int32)).2 28 0 ((((240 : Int32) * v) + ((30 : Int32) * cu)) + it).toNatClampNeg ((((S_MO_throwing σ (0 : Int32) (0 : Int32) (0 : Int32) (0 : Int32)).2).1 28 0 ((((240 : Int32) * v) + ((30 : Int32) * cu)) + it).toNatClampNeg) + n)).1 28 0 ((((240 : Int32) * v) + ((30 : Int32) * cu)) + it).toNatClampNeg), (xuI (S_MO_throwing σ (0 : Int32) (0 : Int32) (0 : Int32) (0 : Int32)).2 28 0 ((((240 : Int32) * v) + ((30 : Int32) * cu)) + it).toNatClampNeg ((((S_MO_throwing σ (0 : Int32) (0 : Int32) (0 : Int32) (0 : Int32)).2).1 28 0 ((((240 : Int32) * v) + ((30 : Int32) * cu)) + it).toNatClampNeg) + n))) else ((0 : Int32), (S_MO_throwing σ (0 : Int32) (0 : Int32) (0 : Int32) (1 : Int32)).2)) else (if ((σ.1 28 0 ((((240 : Int32) * v) + ((30 : Int32) * cu)) + it).toNatClampNeg) + n) ≤ (99 : Int32) then ((0 : Int32), (S_MO_throwing σ (0 : Int32) (0 : Int32) (1 : Int32) (0 : Int32)).2) else ((0 : Int32), (S_MO_throwing σ (0 : Int32) (0 : Int32) (1 : Int32) (1 : Int32)).2)))))
set_option maxHeartbeats 4000000 in
set_option maxRecDepth 100000 in
theorem c_MO_put {l : Launch} {s0 : State} {A0 : Array Value} {D : va_G} {dA : Nat → ClassId} (h0 : XS0 l s0 A0 D dA) (σ : XS) (v : Int32) (cu : Int32) (it : Int32) (n : Int32) (hok : MOk σ) : XMet l y_MO_put [cw_MO_put] rm_MO_put (XP D dA s0 σ [.ref (xB s0 + XA 15 0), .int v, .int cu, .int it, .int n]) (XQs D dA s0 xv_i (.inl (S_MO_put σ v cu it n))) 0 0 (xAm s0) := by
  refine XMet.ofW (cc := b_MO_put) (maxL := 8) (ret := (some .int)) (by decide) rfl ?_
  intro p e s m args below meth c s₁ Bd hml hvA
  obtain ⟨rfl, hX, hO⟩ := hvA
  have hx := Bd.exec
  have hb := Bd.bytes
  have hr := Bd.returns
  have hown : s.vm.findClass "LoadChecksModel" = some m.cls := findClass_of_methodNamed Bd.named
  have hlocks := Bd.notSynchronized
  have hnt : c.exceptionTable.isEmpty = true := Bd.noHandlers (atoms_spec (ws := [cw_MO_put]) Bd.pre _ List.mem_cons_self)
  have hW0 := hO.1
  have hts := xs_w (args := ([.ref (xB s0 + XA 15 0), .int v, .int cu, .int it, .int n] : List Value).toArray) h0 hW0
  have hK := xs_K h0 hW0
  have hS := xo_S0 hO
  have hl := lv_entry ([.ref (xB s0 + XA 15 0), .int v, .int cu, .int it, .int n]) (n := 8) (Nat.le_of_ble_eq_true rfl)
  rw [lg_entry_eq]
  generalize (lg_sl ([.ref (xB s0 + XA 15 0), .int v, .int cu, .int it, .int n]) ++ List.replicate (8 - (lg_sl ([.ref (xB s0 + XA 15 0), .int v, .int cu, .int it, .int n])).length) Slot.unset).toArray = ls at hl ⊢
  have hl : lv_has ls 8 [(0, .ref (xB s0 + XA 15 0)), (1, .int v), (2, .int cu), (3, .int it), (4, .int n)] := hl
  generalize hR : S_MO_put σ v cu it n = res
  unfold S_MO_put at hR
  refine lv_aload_n hx hb d_MO_put_0 rfl (lv_at hl 0 rfl) ?_
  refine lv_iload_n hx hb d_MO_put_1 rfl (lv_at hl 1 rfl) ?_
  refine lv_iload_n hx hb d_MO_put_2 rfl (lv_at hl 2 rfl) ?_
  refine lv_iload_n hx hb d_MO_put_3 rfl (lv_at hl 3 rfl) ?_
  obtain ⟨cB4, hcB4, hoB4, hkB4⟩ := xw_recv (r := 15) (i := 0) hK hX (by decide) rfl rfl
  refine xc_f (rest := []) (x_invV (argsL := [.int v, .int cu, .int it]) hx hb hown (hts _ w_718) (hts _ w_720) (hts _ w_24) (x_code (hts _ w_721)) ⟨by decide, by decide⟩ hcB4 hoB4 hkB4 rfl rfl rfl d_MO_put_4) (c_MO_isThing h0 σ v cu it) (xs_cw h0 hW0 m_721) (hts _ w_38) ⟨rfl, rfl, Nat.le_of_ble_eq_true rfl, Nat.le_of_ble_eq_true rfl⟩ (hl.1.trans hml.symm) (by rw [hb]; exact d_MO_put_4) (Nat.le_of_ble_eq_true rfl) ⟨Nat.le_of_ble_eq_true rfl, Nat.le_of_ble_eq_true rfl⟩ hX ⟨hW0, xo_S hS⟩ ?_
  refine lv_if_ne (tgt := 14) hx hb d_MO_put_7 (by decide) (fun c7 => ?_) (fun c7 => ?_)
  · rw [if_neg c7] at hR
    have hv := m_thv hok c7
    have hc := m_thc c7
    have hi := m_thi c7
    refine lv_iconst (v := 0) hx hb d_MO_put_14 (by decide) ?_
    refine lv_istore (lv' := [(5, .int (0 : Int32)), (0, .ref (xB s0 + XA 15 0)), (1, .int v), (2, .int cu), (3, .int it), (4, .int n)]) hx hb d_MO_put_15 hl (by decide) rfl (fun ls hl => ?_)
    refine lv_iload hx hb d_MO_put_17 (lv_at hl 5 rfl) ?_
    refine lv_iconst (v := 1) hx hb d_MO_put_19 (by decide) ?_
    refine lv_bipush (v := 99) hx hb d_MO_put_20 (by decide) ?_
    refine xc_f (rest := []) (x_invS (argsL := [.int n, .int (1 : Int32), .int (99 : Int32)]) hx hb hown (hts _ w_664) (hts _ w_665) (hts _ w_38) (x_code (hts _ w_666)) ⟨by decide, by decide⟩ rfl rfl rfl d_MO_put_22) (c_MO_in h0 σ n (1 : Int32) (99 : Int32)) (xs_cw h0 hW0 m_666) (hts _ w_38) ⟨rfl, rfl, Nat.le_of_ble_eq_true rfl, Nat.le_of_ble_eq_true rfl⟩ (hl.1.trans hml.symm) (by rw [hb]; exact d_MO_put_22) (Nat.le_of_ble_eq_true rfl) ⟨Nat.le_of_ble_eq_true rfl, Nat.le_of_ble_eq_true rfl⟩ hX ⟨hW0, xo_S hS⟩ ?_
    refine lv_if_ne (tgt := 32) hx hb d_MO_put_25 (by decide) (fun c25 => ?_) (fun c25 => ?_)
    · rw [if_neg c25] at hR
      refine lv_iconst (v := 0) hx hb d_MO_put_32 (by decide) ?_
      refine lv_istore (lv' := [(6, .int (0 : Int32)), (5, .int (0 : Int32)), (0, .ref (xB s0 + XA 15 0)), (1, .int v), (2, .int cu), (3, .int it), (4, .int n)]) hx hb d_MO_put_33 hl (by decide) rfl (fun ls hl => ?_)
      refine lv_iload hx hb d_MO_put_35 (lv_at hl 1 rfl) ?_
      refine lv_if_ne (tgt := 61) hx hb d_MO_put_37 (by decide) (fun c37 => ?_) (fun c37 => ?_)
      · exact absurd (by decide) c37
      · refine lv_iload hx hb d_MO_put_40 (lv_at hl 0 rfl) ?_
        refine lv_if_ne (tgt := 61) hx hb d_MO_put_42 (by decide) (fun c42 => ?_) (fun c42 => ?_)
        · exact absurd (by decide) c42
        · refine lv_aload_n hx hb d_MO_put_45 rfl (lv_at hl 2 rfl) ?_
          refine lv_iload_n hx hb d_MO_put_46 rfl (lv_at hl 3 rfl) ?_
          refine lv_iload_n hx hb d_MO_put_47 rfl (lv_at hl 4 rfl) ?_
          refine lv_iload_n hx hb d_MO_put_48 rfl (lv_at hl 5 rfl) ?_
          refine lv_iload hx hb d_MO_put_49 (lv_at hl 6 rfl) ?_
          obtain ⟨cB51, hcB51, hoB51, hkB51⟩ := xw_recv (r := 15) (i := 0) hK hX (by decide) rfl rfl
          refine xc_s (rest := []) (x_invV (argsL := [.int v, .int cu, .int it, .int n]) hx hb hown (hts _ w_722) (hts _ w_724) (hts _ w_25) (x_code (hts _ w_725)) ⟨by decide, by decide⟩ hcB51 hoB51 hkB51 rfl rfl rfl d_MO_put_51) (c_MO_isTooMuch h0 σ v cu it n hv hc hi) (xs_cw h0 hW0 m_725) (hts _ w_38) ⟨rfl, rfl, Nat.le_of_ble_eq_true rfl, Nat.le_of_ble_eq_true rfl⟩ (hl.1.trans hml.symm) (by rw [hb]; exact d_MO_put_51) (Nat.le_of_ble_eq_true rfl) ⟨Nat.le_of_ble_eq_true rfl, Nat.le_of_ble_eq_true rfl⟩ hX hW0 hS (fun v51 σ51 H locs hM51 hX hS => ?_) (fun E x H1 locs1 hM => by cases hM)
          obtain ⟨ev51, es51⟩ := x_inl hM51
          rw [es51, tm_same] at hX
          subst ev51
          refine lv_if_eq (tgt := 61) hx hb d_MO_put_54 (by decide) (fun c54 => ?_) (fun c54 => ?_)
          · rw [if_pos c54] at hR
            refine lv_iconst (v := 0) hx hb d_MO_put_61 (by decide) ?_
            refine lv_istore (lv' := [(7, .int (0 : Int32)), (6, .int (0 : Int32)), (5, .int (0 : Int32)), (0, .ref (xB s0 + XA 15 0)), (1, .int v), (2, .int cu), (3, .int it), (4, .int n)]) hx hb d_MO_put_62 hl (by decide) rfl (fun ls hl => ?_)
            refine lv_aload_n hx hb d_MO_put_64 rfl (lv_at hl 3 rfl) ?_
            refine lv_iload hx hb d_MO_put_65 (lv_at hl 2 rfl) ?_
            refine lv_iload hx hb d_MO_put_67 (lv_at hl 1 rfl) ?_
            refine lv_iload hx hb d_MO_put_69 (lv_at hl 0 rfl) ?_
            refine lv_iload hx hb d_MO_put_71 (lv_at hl 2 rfl) ?_
            refine lv_if_ne (tgt := 110) hx hb d_MO_put_73 (by decide) (fun c73 => ?_) (fun c73 => ?_)
            · exact absurd (by decide) c73
            · refine lv_iload hx hb d_MO_put_76 (lv_at hl 1 rfl) ?_
              refine lv_if_ne (tgt := 110) hx hb d_MO_put_78 (by decide) (fun c78 => ?_) (fun c78 => ?_)
              · exact absurd (by decide) c78
              · refine lv_aload_n hx hb d_MO_put_81 rfl (lv_at hl 3 rfl) ?_
                refine xw_get (C := R_MO) (T := F_MO) (N := 20) (r := 15) (i := 0) hx hb hts hi_MO hown hK hX (by decide) rfl rfl 16 (by decide) (hts _ w_611) rfl rfl d_MO_put_82 ?_
                refine lv_sipush (v := 240) hx hb d_MO_put_85 (by decide) ?_
                refine lv_iload_n hx hb d_MO_put_88 rfl (lv_at hl 4 rfl) ?_
                refine lv_imul hx hb d_MO_put_89 ?_
                refine lv_bipush (v := 30) hx hb d_MO_put_90 (by decide) ?_
                refine lv_iload_n hx hb d_MO_put_92 rfl (lv_at hl 5 rfl) ?_
                refine lv_imul hx hb d_MO_put_93 ?_
                refine lv_iadd hx hb d_MO_put_94 ?_
                refine lv_iload_n hx hb d_MO_put_95 rfl (lv_at hl 6 rfl) ?_
                refine lv_iadd hx hb d_MO_put_96 ?_
                refine xw_iald (r := 28) (i := 0) hx hb hK hX (by decide) 0 rfl rfl (j := ((((240 : Int32) * v) + ((30 : Int32) * cu)) + it)) (o_c3 hv hc hi) d_MO_put_97 ?_
                refine lv_iload hx hb d_MO_put_98 (lv_at hl 7 rfl) ?_
                refine lv_iadd hx hb d_MO_put_100 ?_
                refine lv_bipush (v := 99) hx hb d_MO_put_101 (by decide) ?_
                refine lv_icmp_le (tgt := 110) hx hb d_MO_put_103 (by decide) (fun c103 => ?_) (fun c103 => ?_)
                · rw [if_pos c103] at hR
                  refine lv_iconst (v := 0) hx hb d_MO_put_110 (by decide) ?_
                  obtain ⟨cB111, hcB111, hoB111, hkB111⟩ := xw_recv (r := 15) (i := 0) hK hX (by decide) rfl rfl
                  refine xc_s (rest := []) (x_invV (argsL := [.int (0 : Int32), .int (0 : Int32), .int (0 : Int32), .int (0 : Int32)]) hx hb hown (hts _ w_671) (hts _ w_673) (hts _ w_20) (x_code (hts _ w_674)) ⟨by decide, by decide⟩ hcB111 hoB111 hkB111 rfl rfl rfl d_MO_put_111) (c_MO_throwing h0 σ (0 : Int32) (0 : Int32) (0 : Int32) (0 : Int32)) (xs_cw h0 hW0 m_674) (hts _ w_38) ⟨rfl, rfl, Nat.le_of_ble_eq_true rfl, Nat.le_of_ble_eq_true rfl⟩ (hl.1.trans hml.symm) (by rw [hb]; exact d_MO_put_111) (Nat.le_of_ble_eq_true rfl) ⟨Nat.le_of_ble_eq_true rfl, Nat.le_of_ble_eq_true rfl⟩ hX hW0 hS (fun v111 σ111 H locs hM111 hX hS => ?_) (fun E x H1 locs1 hM => by cases hM)
                  obtain ⟨ev111, es111⟩ := x_inl hM111
                  subst es111
                  subst ev111
                  refine lv_if_eq (tgt := 119) hx hb d_MO_put_114 (by decide) (fun c114 => ?_) (fun c114 => ?_)
                  · refine lv_aload_n hx hb d_MO_put_119 rfl (lv_at hl 3 rfl) ?_
                    refine xw_get (C := R_MO) (T := F_MO) (N := 20) (r := 15) (i := 0) hx hb hts hi_MO hown hK hX (by decide) rfl rfl 16 (by decide) (hts _ w_611) rfl rfl d_MO_put_120 ?_
                    refine lv_sipush (v := 240) hx hb d_MO_put_123 (by decide) ?_
                    refine lv_iload_n hx hb d_MO_put_126 rfl (lv_at hl 4 rfl) ?_
                    refine lv_imul hx hb d_MO_put_127 ?_
                    refine lv_bipush (v := 30) hx hb d_MO_put_128 (by decide) ?_
                    refine lv_iload_n hx hb d_MO_put_130 rfl (lv_at hl 5 rfl) ?_
                    refine lv_imul hx hb d_MO_put_131 ?_
                    refine lv_iadd hx hb d_MO_put_132 ?_
                    refine lv_iload_n hx hb d_MO_put_133 rfl (lv_at hl 6 rfl) ?_
                    refine lv_iadd hx hb d_MO_put_134 ?_
                    refine lv_dup2_11 hx hb d_MO_put_135 rfl rfl ?_
                    refine xw_iald (r := 28) (i := 0) hx hb hK hX (by decide) 0 rfl rfl (j := ((((240 : Int32) * v) + ((30 : Int32) * cu)) + it)) (o_c3 hv hc hi) d_MO_put_136 ?_
                    refine lv_iload hx hb d_MO_put_137 (lv_at hl 7 rfl) ?_
                    refine lv_iadd hx hb d_MO_put_139 ?_
                    refine xw_iast (r := 28) (i := 0) (ent' := XE dA (xB s0) (xuI (S_MO_throwing σ (0 : Int32) (0 : Int32) (0 : Int32) (0 : Int32)).2 28 0 ((((240 : Int32) * v) + ((30 : Int32) * cu)) + it).toNatClampNeg ((((S_MO_throwing σ (0 : Int32) (0 : Int32) (0 : Int32) (0 : Int32)).2).1 28 0 ((((240 : Int32) * v) + ((30 : Int32) * cu)) + it).toNatClampNeg) + n))) hx hb hK xInj hX hS (xA_in _ _ _) (by decide) 0 rfl rfl (j := ((((240 : Int32) * v) + ((30 : Int32) * cu)) + it)) (o_c3 hv hc hi) ((xe_uI dA (xB s0) ((S_MO_throwing σ (0 : Int32) (0 : Int32) (0 : Int32) (0 : Int32)).2) 28 0 ((((240 : Int32) * v) + ((30 : Int32) * cu)) + it).toNatClampNeg ((((S_MO_throwing σ (0 : Int32) (0 : Int32) (0 : Int32) (0 : Int32)).2).1 28 0 ((((240 : Int32) * v) + ((30 : Int32) * cu)) + it).toNatClampNeg) + n)).trans rfl) (xe_oI dA (xB s0) ((S_MO_throwing σ (0 : Int32) (0 : Int32) (0 : Int32) (0 : Int32)).2) 28 0 ((((240 : Int32) * v) + ((30 : Int32) * cu)) + it).toNatClampNeg ((((S_MO_throwing σ (0 : Int32) (0 : Int32) (0 : Int32) (0 : Int32)).2).1 28 0 ((((240 : Int32) * v) + ((30 : Int32) * cu)) + it).toNatClampNeg) + n)) d_MO_put_140 (fun H locs hX hS => ?_)
                    refine lv_aload_n hx hb d_MO_put_141 rfl (lv_at hl 3 rfl) ?_
                    refine xw_get (C := R_MO) (T := F_MO) (N := 20) (r := 15) (i := 0) hx hb hts hi_MO hown hK hX (by decide) rfl rfl 16 (by decide) (hts _ w_611) rfl rfl d_MO_put_142 ?_
                    refine lv_sipush (v := 240) hx hb d_MO_put_145 (by decide) ?_
                    refine lv_iload_n hx hb d_MO_put_148 rfl (lv_at hl 4 rfl) ?_
                    refine lv_imul hx hb d_MO_put_149 ?_
                    refine lv_bipush (v := 30) hx hb d_MO_put_150 (by decide) ?_
                    refine lv_iload_n hx hb d_MO_put_152 rfl (lv_at hl 5 rfl) ?_
                    refine lv_imul hx hb d_MO_put_153 ?_
                    refine lv_iadd hx hb d_MO_put_154 ?_
                    refine lv_iload_n hx hb d_MO_put_155 rfl (lv_at hl 6 rfl) ?_
                    refine lv_iadd hx hb d_MO_put_156 ?_
                    refine xw_iald (r := 28) (i := 0) hx hb hK hX (by decide) 0 rfl rfl (j := ((((240 : Int32) * v) + ((30 : Int32) * cu)) + it)) (o_c3 hv hc hi) d_MO_put_157 ?_
                    subst hR
                    refine W.widen (k := 0) (n := 0) (by decide) (by decide) ?_; exact xs_i hx hb hr hlocks hX hS d_MO_put_158
                  · exact absurd thr_z c114
                · rw [if_neg c103] at hR
                  refine lv_iconst (v := 1) hx hb d_MO_put_106 (by decide) ?_
                  refine lv_goto (tgt := 111) hx hb d_MO_put_107 (by decide) ?_
                  obtain ⟨cB111, hcB111, hoB111, hkB111⟩ := xw_recv (r := 15) (i := 0) hK hX (by decide) rfl rfl
                  refine xc_s (rest := []) (x_invV (argsL := [.int (0 : Int32), .int (0 : Int32), .int (0 : Int32), .int (1 : Int32)]) hx hb hown (hts _ w_671) (hts _ w_673) (hts _ w_20) (x_code (hts _ w_674)) ⟨by decide, by decide⟩ hcB111 hoB111 hkB111 rfl rfl rfl d_MO_put_111) (c_MO_throwing h0 σ (0 : Int32) (0 : Int32) (0 : Int32) (1 : Int32)) (xs_cw h0 hW0 m_674) (hts _ w_38) ⟨rfl, rfl, Nat.le_of_ble_eq_true rfl, Nat.le_of_ble_eq_true rfl⟩ (hl.1.trans hml.symm) (by rw [hb]; exact d_MO_put_111) (Nat.le_of_ble_eq_true rfl) ⟨Nat.le_of_ble_eq_true rfl, Nat.le_of_ble_eq_true rfl⟩ hX hW0 hS (fun v111 σ111 H locs hM111 hX hS => ?_) (fun E x H1 locs1 hM => by cases hM)
                  obtain ⟨ev111, es111⟩ := x_inl hM111
                  subst es111
                  subst ev111
                  refine lv_if_eq (tgt := 119) hx hb d_MO_put_114 (by decide) (fun c114 => ?_) (fun c114 => ?_)
                  · exact absurd c114 (thr_n4 (by decide))
                  · refine lv_iconst (v := 0) hx hb d_MO_put_117 (by decide) ?_
                    subst hR
                    refine W.widen (k := 0) (n := 0) (by decide) (by decide) ?_; exact xs_i hx hb hr hlocks hX hS d_MO_put_118
          · rw [if_neg c54] at hR
            refine lv_iconst (v := 1) hx hb d_MO_put_57 (by decide) ?_
            refine lv_goto (tgt := 62) hx hb d_MO_put_58 (by decide) ?_
            refine lv_istore (lv' := [(7, .int (1 : Int32)), (6, .int (0 : Int32)), (5, .int (0 : Int32)), (0, .ref (xB s0 + XA 15 0)), (1, .int v), (2, .int cu), (3, .int it), (4, .int n)]) hx hb d_MO_put_62 hl (by decide) rfl (fun ls hl => ?_)
            refine lv_aload_n hx hb d_MO_put_64 rfl (lv_at hl 3 rfl) ?_
            refine lv_iload hx hb d_MO_put_65 (lv_at hl 2 rfl) ?_
            refine lv_iload hx hb d_MO_put_67 (lv_at hl 1 rfl) ?_
            refine lv_iload hx hb d_MO_put_69 (lv_at hl 0 rfl) ?_
            refine lv_iload hx hb d_MO_put_71 (lv_at hl 2 rfl) ?_
            refine lv_if_ne (tgt := 110) hx hb d_MO_put_73 (by decide) (fun c73 => ?_) (fun c73 => ?_)
            · exact absurd (by decide) c73
            · refine lv_iload hx hb d_MO_put_76 (lv_at hl 1 rfl) ?_
              refine lv_if_ne (tgt := 110) hx hb d_MO_put_78 (by decide) (fun c78 => ?_) (fun c78 => ?_)
              · exact absurd (by decide) c78
              · refine lv_aload_n hx hb d_MO_put_81 rfl (lv_at hl 3 rfl) ?_
                refine xw_get (C := R_MO) (T := F_MO) (N := 20) (r := 15) (i := 0) hx hb hts hi_MO hown hK hX (by decide) rfl rfl 16 (by decide) (hts _ w_611) rfl rfl d_MO_put_82 ?_
                refine lv_sipush (v := 240) hx hb d_MO_put_85 (by decide) ?_
                refine lv_iload_n hx hb d_MO_put_88 rfl (lv_at hl 4 rfl) ?_
                refine lv_imul hx hb d_MO_put_89 ?_
                refine lv_bipush (v := 30) hx hb d_MO_put_90 (by decide) ?_
                refine lv_iload_n hx hb d_MO_put_92 rfl (lv_at hl 5 rfl) ?_
                refine lv_imul hx hb d_MO_put_93 ?_
                refine lv_iadd hx hb d_MO_put_94 ?_
                refine lv_iload_n hx hb d_MO_put_95 rfl (lv_at hl 6 rfl) ?_
                refine lv_iadd hx hb d_MO_put_96 ?_
                refine xw_iald (r := 28) (i := 0) hx hb hK hX (by decide) 0 rfl rfl (j := ((((240 : Int32) * v) + ((30 : Int32) * cu)) + it)) (o_c3 hv hc hi) d_MO_put_97 ?_
                refine lv_iload hx hb d_MO_put_98 (lv_at hl 7 rfl) ?_
                refine lv_iadd hx hb d_MO_put_100 ?_
                refine lv_bipush (v := 99) hx hb d_MO_put_101 (by decide) ?_
                refine lv_icmp_le (tgt := 110) hx hb d_MO_put_103 (by decide) (fun c103 => ?_) (fun c103 => ?_)
                · rw [if_pos c103] at hR
                  refine lv_iconst (v := 0) hx hb d_MO_put_110 (by decide) ?_
                  obtain ⟨cB111, hcB111, hoB111, hkB111⟩ := xw_recv (r := 15) (i := 0) hK hX (by decide) rfl rfl
                  refine xc_s (rest := []) (x_invV (argsL := [.int (0 : Int32), .int (0 : Int32), .int (1 : Int32), .int (0 : Int32)]) hx hb hown (hts _ w_671) (hts _ w_673) (hts _ w_20) (x_code (hts _ w_674)) ⟨by decide, by decide⟩ hcB111 hoB111 hkB111 rfl rfl rfl d_MO_put_111) (c_MO_throwing h0 σ (0 : Int32) (0 : Int32) (1 : Int32) (0 : Int32)) (xs_cw h0 hW0 m_674) (hts _ w_38) ⟨rfl, rfl, Nat.le_of_ble_eq_true rfl, Nat.le_of_ble_eq_true rfl⟩ (hl.1.trans hml.symm) (by rw [hb]; exact d_MO_put_111) (Nat.le_of_ble_eq_true rfl) ⟨Nat.le_of_ble_eq_true rfl, Nat.le_of_ble_eq_true rfl⟩ hX hW0 hS (fun v111 σ111 H locs hM111 hX hS => ?_) (fun E x H1 locs1 hM => by cases hM)
                  obtain ⟨ev111, es111⟩ := x_inl hM111
                  subst es111
                  subst ev111
                  refine lv_if_eq (tgt := 119) hx hb d_MO_put_114 (by decide) (fun c114 => ?_) (fun c114 => ?_)
                  · exact absurd c114 (thr_n3 (by decide))
                  · refine lv_iconst (v := 0) hx hb d_MO_put_117 (by decide) ?_
                    subst hR
                    refine W.widen (k := 0) (n := 0) (by decide) (by decide) ?_; exact xs_i hx hb hr hlocks hX hS d_MO_put_118
                · rw [if_neg c103] at hR
                  refine lv_iconst (v := 1) hx hb d_MO_put_106 (by decide) ?_
                  refine lv_goto (tgt := 111) hx hb d_MO_put_107 (by decide) ?_
                  obtain ⟨cB111, hcB111, hoB111, hkB111⟩ := xw_recv (r := 15) (i := 0) hK hX (by decide) rfl rfl
                  refine xc_s (rest := []) (x_invV (argsL := [.int (0 : Int32), .int (0 : Int32), .int (1 : Int32), .int (1 : Int32)]) hx hb hown (hts _ w_671) (hts _ w_673) (hts _ w_20) (x_code (hts _ w_674)) ⟨by decide, by decide⟩ hcB111 hoB111 hkB111 rfl rfl rfl d_MO_put_111) (c_MO_throwing h0 σ (0 : Int32) (0 : Int32) (1 : Int32) (1 : Int32)) (xs_cw h0 hW0 m_674) (hts _ w_38) ⟨rfl, rfl, Nat.le_of_ble_eq_true rfl, Nat.le_of_ble_eq_true rfl⟩ (hl.1.trans hml.symm) (by rw [hb]; exact d_MO_put_111) (Nat.le_of_ble_eq_true rfl) ⟨Nat.le_of_ble_eq_true rfl, Nat.le_of_ble_eq_true rfl⟩ hX hW0 hS (fun v111 σ111 H locs hM111 hX hS => ?_) (fun E x H1 locs1 hM => by cases hM)
                  obtain ⟨ev111, es111⟩ := x_inl hM111
                  subst es111
                  subst ev111
                  refine lv_if_eq (tgt := 119) hx hb d_MO_put_114 (by decide) (fun c114 => ?_) (fun c114 => ?_)
                  · exact absurd c114 (thr_n3 (by decide))
                  · refine lv_iconst (v := 0) hx hb d_MO_put_117 (by decide) ?_
                    subst hR
                    refine W.widen (k := 0) (n := 0) (by decide) (by decide) ?_; exact xs_i hx hb hr hlocks hX hS d_MO_put_118
    · rw [if_pos c25] at hR
      refine lv_iconst (v := 1) hx hb d_MO_put_28 (by decide) ?_
      refine lv_goto (tgt := 33) hx hb d_MO_put_29 (by decide) ?_
      refine lv_istore (lv' := [(6, .int (1 : Int32)), (5, .int (0 : Int32)), (0, .ref (xB s0 + XA 15 0)), (1, .int v), (2, .int cu), (3, .int it), (4, .int n)]) hx hb d_MO_put_33 hl (by decide) rfl (fun ls hl => ?_)
      refine lv_iload hx hb d_MO_put_35 (lv_at hl 1 rfl) ?_
      refine lv_if_ne (tgt := 61) hx hb d_MO_put_37 (by decide) (fun c37 => ?_) (fun c37 => ?_)
      · exact absurd (by decide) c37
      · refine lv_iload hx hb d_MO_put_40 (lv_at hl 0 rfl) ?_
        refine lv_if_ne (tgt := 61) hx hb d_MO_put_42 (by decide) (fun c42 => ?_) (fun c42 => ?_)
        · refine lv_iconst (v := 0) hx hb d_MO_put_61 (by decide) ?_
          refine lv_istore (lv' := [(7, .int (0 : Int32)), (6, .int (1 : Int32)), (5, .int (0 : Int32)), (0, .ref (xB s0 + XA 15 0)), (1, .int v), (2, .int cu), (3, .int it), (4, .int n)]) hx hb d_MO_put_62 hl (by decide) rfl (fun ls hl => ?_)
          refine lv_aload_n hx hb d_MO_put_64 rfl (lv_at hl 3 rfl) ?_
          refine lv_iload hx hb d_MO_put_65 (lv_at hl 2 rfl) ?_
          refine lv_iload hx hb d_MO_put_67 (lv_at hl 1 rfl) ?_
          refine lv_iload hx hb d_MO_put_69 (lv_at hl 0 rfl) ?_
          refine lv_iload hx hb d_MO_put_71 (lv_at hl 2 rfl) ?_
          refine lv_if_ne (tgt := 110) hx hb d_MO_put_73 (by decide) (fun c73 => ?_) (fun c73 => ?_)
          · exact absurd (by decide) c73
          · refine lv_iload hx hb d_MO_put_76 (lv_at hl 1 rfl) ?_
            refine lv_if_ne (tgt := 110) hx hb d_MO_put_78 (by decide) (fun c78 => ?_) (fun c78 => ?_)
            · refine lv_iconst (v := 0) hx hb d_MO_put_110 (by decide) ?_
              obtain ⟨cB111, hcB111, hoB111, hkB111⟩ := xw_recv (r := 15) (i := 0) hK hX (by decide) rfl rfl
              refine xc_s (rest := []) (x_invV (argsL := [.int (0 : Int32), .int (1 : Int32), .int (0 : Int32), .int (0 : Int32)]) hx hb hown (hts _ w_671) (hts _ w_673) (hts _ w_20) (x_code (hts _ w_674)) ⟨by decide, by decide⟩ hcB111 hoB111 hkB111 rfl rfl rfl d_MO_put_111) (c_MO_throwing h0 σ (0 : Int32) (1 : Int32) (0 : Int32) (0 : Int32)) (xs_cw h0 hW0 m_674) (hts _ w_38) ⟨rfl, rfl, Nat.le_of_ble_eq_true rfl, Nat.le_of_ble_eq_true rfl⟩ (hl.1.trans hml.symm) (by rw [hb]; exact d_MO_put_111) (Nat.le_of_ble_eq_true rfl) ⟨Nat.le_of_ble_eq_true rfl, Nat.le_of_ble_eq_true rfl⟩ hX hW0 hS (fun v111 σ111 H locs hM111 hX hS => ?_) (fun E x H1 locs1 hM => by cases hM)
              obtain ⟨ev111, es111⟩ := x_inl hM111
              subst es111
              subst ev111
              refine lv_if_eq (tgt := 119) hx hb d_MO_put_114 (by decide) (fun c114 => ?_) (fun c114 => ?_)
              · exact absurd c114 (thr_n2 (by decide))
              · refine lv_iconst (v := 0) hx hb d_MO_put_117 (by decide) ?_
                subst hR
                refine W.widen (k := 0) (n := 0) (by decide) (by decide) ?_; exact xs_i hx hb hr hlocks hX hS d_MO_put_118
            · exact absurd c78 (by decide)
        · exact absurd c42 (by decide)
  · rw [if_pos c7] at hR
    refine lv_iconst (v := 1) hx hb d_MO_put_10 (by decide) ?_
    refine lv_goto (tgt := 15) hx hb d_MO_put_11 (by decide) ?_
    refine lv_istore (lv' := [(5, .int (1 : Int32)), (0, .ref (xB s0 + XA 15 0)), (1, .int v), (2, .int cu), (3, .int it), (4, .int n)]) hx hb d_MO_put_15 hl (by decide) rfl (fun ls hl => ?_)
    refine lv_iload hx hb d_MO_put_17 (lv_at hl 5 rfl) ?_
    refine lv_iconst (v := 1) hx hb d_MO_put_19 (by decide) ?_
    refine lv_bipush (v := 99) hx hb d_MO_put_20 (by decide) ?_
    refine xc_f (rest := []) (x_invS (argsL := [.int n, .int (1 : Int32), .int (99 : Int32)]) hx hb hown (hts _ w_664) (hts _ w_665) (hts _ w_38) (x_code (hts _ w_666)) ⟨by decide, by decide⟩ rfl rfl rfl d_MO_put_22) (c_MO_in h0 σ n (1 : Int32) (99 : Int32)) (xs_cw h0 hW0 m_666) (hts _ w_38) ⟨rfl, rfl, Nat.le_of_ble_eq_true rfl, Nat.le_of_ble_eq_true rfl⟩ (hl.1.trans hml.symm) (by rw [hb]; exact d_MO_put_22) (Nat.le_of_ble_eq_true rfl) ⟨Nat.le_of_ble_eq_true rfl, Nat.le_of_ble_eq_true rfl⟩ hX ⟨hW0, xo_S hS⟩ ?_
    refine lv_if_ne (tgt := 32) hx hb d_MO_put_25 (by decide) (fun c25 => ?_) (fun c25 => ?_)
    · rw [if_neg c25] at hR
      refine lv_iconst (v := 0) hx hb d_MO_put_32 (by decide) ?_
      refine lv_istore (lv' := [(6, .int (0 : Int32)), (5, .int (1 : Int32)), (0, .ref (xB s0 + XA 15 0)), (1, .int v), (2, .int cu), (3, .int it), (4, .int n)]) hx hb d_MO_put_33 hl (by decide) rfl (fun ls hl => ?_)
      refine lv_iload hx hb d_MO_put_35 (lv_at hl 1 rfl) ?_
      refine lv_if_ne (tgt := 61) hx hb d_MO_put_37 (by decide) (fun c37 => ?_) (fun c37 => ?_)
      · refine lv_iconst (v := 0) hx hb d_MO_put_61 (by decide) ?_
        refine lv_istore (lv' := [(7, .int (0 : Int32)), (6, .int (0 : Int32)), (5, .int (1 : Int32)), (0, .ref (xB s0 + XA 15 0)), (1, .int v), (2, .int cu), (3, .int it), (4, .int n)]) hx hb d_MO_put_62 hl (by decide) rfl (fun ls hl => ?_)
        refine lv_aload_n hx hb d_MO_put_64 rfl (lv_at hl 3 rfl) ?_
        refine lv_iload hx hb d_MO_put_65 (lv_at hl 2 rfl) ?_
        refine lv_iload hx hb d_MO_put_67 (lv_at hl 1 rfl) ?_
        refine lv_iload hx hb d_MO_put_69 (lv_at hl 0 rfl) ?_
        refine lv_iload hx hb d_MO_put_71 (lv_at hl 2 rfl) ?_
        refine lv_if_ne (tgt := 110) hx hb d_MO_put_73 (by decide) (fun c73 => ?_) (fun c73 => ?_)
        · refine lv_iconst (v := 0) hx hb d_MO_put_110 (by decide) ?_
          obtain ⟨cB111, hcB111, hoB111, hkB111⟩ := xw_recv (r := 15) (i := 0) hK hX (by decide) rfl rfl
          refine xc_s (rest := []) (x_invV (argsL := [.int (1 : Int32), .int (0 : Int32), .int (0 : Int32), .int (0 : Int32)]) hx hb hown (hts _ w_671) (hts _ w_673) (hts _ w_20) (x_code (hts _ w_674)) ⟨by decide, by decide⟩ hcB111 hoB111 hkB111 rfl rfl rfl d_MO_put_111) (c_MO_throwing h0 σ (1 : Int32) (0 : Int32) (0 : Int32) (0 : Int32)) (xs_cw h0 hW0 m_674) (hts _ w_38) ⟨rfl, rfl, Nat.le_of_ble_eq_true rfl, Nat.le_of_ble_eq_true rfl⟩ (hl.1.trans hml.symm) (by rw [hb]; exact d_MO_put_111) (Nat.le_of_ble_eq_true rfl) ⟨Nat.le_of_ble_eq_true rfl, Nat.le_of_ble_eq_true rfl⟩ hX hW0 hS (fun v111 σ111 H locs hM111 hX hS => ?_) (fun E x H1 locs1 hM => by cases hM)
          obtain ⟨ev111, es111⟩ := x_inl hM111
          subst es111
          subst ev111
          refine lv_if_eq (tgt := 119) hx hb d_MO_put_114 (by decide) (fun c114 => ?_) (fun c114 => ?_)
          · exact absurd c114 (thr_n1 (by decide))
          · refine lv_iconst (v := 0) hx hb d_MO_put_117 (by decide) ?_
            subst hR
            refine W.widen (k := 0) (n := 0) (by decide) (by decide) ?_; exact xs_i hx hb hr hlocks hX hS d_MO_put_118
        · exact absurd c73 (by decide)
      · exact absurd c37 (by decide)
    · rw [if_pos c25] at hR
      refine lv_iconst (v := 1) hx hb d_MO_put_28 (by decide) ?_
      refine lv_goto (tgt := 33) hx hb d_MO_put_29 (by decide) ?_
      refine lv_istore (lv' := [(6, .int (1 : Int32)), (5, .int (1 : Int32)), (0, .ref (xB s0 + XA 15 0)), (1, .int v), (2, .int cu), (3, .int it), (4, .int n)]) hx hb d_MO_put_33 hl (by decide) rfl (fun ls hl => ?_)
      refine lv_iload hx hb d_MO_put_35 (lv_at hl 1 rfl) ?_
      refine lv_if_ne (tgt := 61) hx hb d_MO_put_37 (by decide) (fun c37 => ?_) (fun c37 => ?_)
      · refine lv_iconst (v := 0) hx hb d_MO_put_61 (by decide) ?_
        refine lv_istore (lv' := [(7, .int (0 : Int32)), (6, .int (1 : Int32)), (5, .int (1 : Int32)), (0, .ref (xB s0 + XA 15 0)), (1, .int v), (2, .int cu), (3, .int it), (4, .int n)]) hx hb d_MO_put_62 hl (by decide) rfl (fun ls hl => ?_)
        refine lv_aload_n hx hb d_MO_put_64 rfl (lv_at hl 3 rfl) ?_
        refine lv_iload hx hb d_MO_put_65 (lv_at hl 2 rfl) ?_
        refine lv_iload hx hb d_MO_put_67 (lv_at hl 1 rfl) ?_
        refine lv_iload hx hb d_MO_put_69 (lv_at hl 0 rfl) ?_
        refine lv_iload hx hb d_MO_put_71 (lv_at hl 2 rfl) ?_
        refine lv_if_ne (tgt := 110) hx hb d_MO_put_73 (by decide) (fun c73 => ?_) (fun c73 => ?_)
        · refine lv_iconst (v := 0) hx hb d_MO_put_110 (by decide) ?_
          obtain ⟨cB111, hcB111, hoB111, hkB111⟩ := xw_recv (r := 15) (i := 0) hK hX (by decide) rfl rfl
          refine xc_s (rest := []) (x_invV (argsL := [.int (1 : Int32), .int (1 : Int32), .int (0 : Int32), .int (0 : Int32)]) hx hb hown (hts _ w_671) (hts _ w_673) (hts _ w_20) (x_code (hts _ w_674)) ⟨by decide, by decide⟩ hcB111 hoB111 hkB111 rfl rfl rfl d_MO_put_111) (c_MO_throwing h0 σ (1 : Int32) (1 : Int32) (0 : Int32) (0 : Int32)) (xs_cw h0 hW0 m_674) (hts _ w_38) ⟨rfl, rfl, Nat.le_of_ble_eq_true rfl, Nat.le_of_ble_eq_true rfl⟩ (hl.1.trans hml.symm) (by rw [hb]; exact d_MO_put_111) (Nat.le_of_ble_eq_true rfl) ⟨Nat.le_of_ble_eq_true rfl, Nat.le_of_ble_eq_true rfl⟩ hX hW0 hS (fun v111 σ111 H locs hM111 hX hS => ?_) (fun E x H1 locs1 hM => by cases hM)
          obtain ⟨ev111, es111⟩ := x_inl hM111
          subst es111
          subst ev111
          refine lv_if_eq (tgt := 119) hx hb d_MO_put_114 (by decide) (fun c114 => ?_) (fun c114 => ?_)
          · exact absurd c114 (thr_n1 (by decide))
          · refine lv_iconst (v := 0) hx hb d_MO_put_117 (by decide) ?_
            subst hR
            refine W.widen (k := 0) (n := 0) (by decide) (by decide) ?_; exact xs_i hx hb hr hlocks hX hS d_MO_put_118
        · exact absurd c73 (by decide)
      · exact absurd c37 (by decide)

abbrev rm_MO_use : Room := { frames := 3, cells := 0, slots := 0, locals := 66 }
def S_MO_use (σ : XS) (v : Int32) (cu : Int32) (it : Int32) (n : Int32) : Int32 × XS := (if (S_MO_isThing σ v cu it) = 0 then (if (S_MO_in σ n (1 : Int32) (99 : Int32)) = 0 then ((0 : Int32), (S_MO_throwing σ (1 : Int32) (1 : Int32) (0 : Int32) (0 : Int32)).2) else ((0 : Int32), (S_MO_throwing σ (1 : Int32) (0 : Int32) (0 : Int32) (0 : Int32)).2)) else (if (S_MO_in σ n (1 : Int32) (99 : Int32)) = 0 then (if n ≤ (σ.1 28 0 ((((240 : Int32) * v) + ((30 : Int32) * cu)) + it).toNatClampNeg) then ((0 : Int32), (S_MO_throwing σ (0 : Int32) (1 : Int32) (0 : Int32) (0 : Int32)).2) else ((0 : Int32), (S_MO_throwing σ (0 : Int32) (1 : Int32) (1 : Int32) (0 : Int32)).2)) else (if n ≤ (σ.1 28 0 ((((240 : Int32) * v) + ((30 : Int32) * cu)) + it).toNatClampNeg) then (((xuI (S_MO_throwing σ (0 : Int32) (0 : Int32) (0 : Int32) (0 : Int32)).2 28 0 ((((240 : Int32) * v) + ((30 : Int32) * cu)) + it).toNatClampNeg ((((S_MO_throwing σ (0 : Int32) (0 : Int32) (0 : Int32) (0 : Int32)).2).1 28 0 ((((240 : Int32) * v) + ((30 : Int32) * cu)) + it).toNatClampNeg) - n)).1 28 0 ((((240 : Int32) * v) + ((30 : Int32) * cu)) + it).toNatClampNeg), (xuI (S_MO_throwing σ (0 : Int32) (0 : Int32) (0 : Int32) (0 : Int32)).2 28 0 ((((240 : Int32) * v) + ((30 : Int32) * cu)) + it).toNatClampNeg ((((S_MO_throwing σ (0 : Int32) (0 : Int32) (0 : Int32) (0 : Int32)).2).1 28 0 ((((240 : Int32) * v) + ((30 : Int32) * cu)) + it).toNatClampNeg) - n))) else ((0 : Int32), (S_MO_throwing σ (0 : Int32) (0 : Int32) (1 : Int32) (0 : Int32)).2))))
set_option maxHeartbeats 4000000 in
set_option maxRecDepth 100000 in
theorem c_MO_use {l : Launch} {s0 : State} {A0 : Array Value} {D : va_G} {dA : Nat → ClassId} (h0 : XS0 l s0 A0 D dA) (σ : XS) (v : Int32) (cu : Int32) (it : Int32) (n : Int32) (hok : MOk σ) : XMet l y_MO_use [cw_MO_use] rm_MO_use (XP D dA s0 σ [.ref (xB s0 + XA 15 0), .int v, .int cu, .int it, .int n]) (XQs D dA s0 xv_i (.inl (S_MO_use σ v cu it n))) 0 0 (xAm s0) := by
  refine XMet.ofW (cc := b_MO_use) (maxL := 6) (ret := (some .int)) (by decide) rfl ?_
  intro p e s m args below meth c s₁ Bd hml hvA
  obtain ⟨rfl, hX, hO⟩ := hvA
  have hx := Bd.exec
  have hb := Bd.bytes
  have hr := Bd.returns
  have hown : s.vm.findClass "LoadChecksModel" = some m.cls := findClass_of_methodNamed Bd.named
  have hlocks := Bd.notSynchronized
  have hnt : c.exceptionTable.isEmpty = true := Bd.noHandlers (atoms_spec (ws := [cw_MO_use]) Bd.pre _ List.mem_cons_self)
  have hW0 := hO.1
  have hts := xs_w (args := ([.ref (xB s0 + XA 15 0), .int v, .int cu, .int it, .int n] : List Value).toArray) h0 hW0
  have hK := xs_K h0 hW0
  have hS := xo_S0 hO
  have hl := lv_entry ([.ref (xB s0 + XA 15 0), .int v, .int cu, .int it, .int n]) (n := 6) (Nat.le_of_ble_eq_true rfl)
  rw [lg_entry_eq]
  generalize (lg_sl ([.ref (xB s0 + XA 15 0), .int v, .int cu, .int it, .int n]) ++ List.replicate (6 - (lg_sl ([.ref (xB s0 + XA 15 0), .int v, .int cu, .int it, .int n])).length) Slot.unset).toArray = ls at hl ⊢
  have hl : lv_has ls 6 [(0, .ref (xB s0 + XA 15 0)), (1, .int v), (2, .int cu), (3, .int it), (4, .int n)] := hl
  generalize hR : S_MO_use σ v cu it n = res
  unfold S_MO_use at hR
  refine lv_aload_n hx hb d_MO_use_0 rfl (lv_at hl 0 rfl) ?_
  refine lv_iload_n hx hb d_MO_use_1 rfl (lv_at hl 1 rfl) ?_
  refine lv_iload_n hx hb d_MO_use_2 rfl (lv_at hl 2 rfl) ?_
  refine lv_iload_n hx hb d_MO_use_3 rfl (lv_at hl 3 rfl) ?_
  obtain ⟨cB4, hcB4, hoB4, hkB4⟩ := xw_recv (r := 15) (i := 0) hK hX (by decide) rfl rfl
  refine xc_f (rest := []) (x_invV (argsL := [.int v, .int cu, .int it]) hx hb hown (hts _ w_718) (hts _ w_720) (hts _ w_24) (x_code (hts _ w_721)) ⟨by decide, by decide⟩ hcB4 hoB4 hkB4 rfl rfl rfl d_MO_use_4) (c_MO_isThing h0 σ v cu it) (xs_cw h0 hW0 m_721) (hts _ w_38) ⟨rfl, rfl, Nat.le_of_ble_eq_true rfl, Nat.le_of_ble_eq_true rfl⟩ (hl.1.trans hml.symm) (by rw [hb]; exact d_MO_use_4) (Nat.le_of_ble_eq_true rfl) ⟨Nat.le_of_ble_eq_true rfl, Nat.le_of_ble_eq_true rfl⟩ hX ⟨hW0, xo_S hS⟩ ?_
  refine lv_if_ne (tgt := 14) hx hb d_MO_use_7 (by decide) (fun c7 => ?_) (fun c7 => ?_)
  · rw [if_neg c7] at hR
    have hv := m_thv hok c7
    have hc := m_thc c7
    have hi := m_thi c7
    refine lv_iconst (v := 0) hx hb d_MO_use_14 (by decide) ?_
    refine lv_istore (lv' := [(5, .int (0 : Int32)), (0, .ref (xB s0 + XA 15 0)), (1, .int v), (2, .int cu), (3, .int it), (4, .int n)]) hx hb d_MO_use_15 hl (by decide) rfl (fun ls hl => ?_)
    refine lv_aload_n hx hb d_MO_use_17 rfl (lv_at hl 1 rfl) ?_
    refine lv_iload hx hb d_MO_use_18 (lv_at hl 0 rfl) ?_
    refine lv_iload hx hb d_MO_use_20 (lv_at hl 5 rfl) ?_
    refine lv_iconst (v := 1) hx hb d_MO_use_22 (by decide) ?_
    refine lv_bipush (v := 99) hx hb d_MO_use_23 (by decide) ?_
    refine xc_f (rest := [.int (0 : Int32), .ref (xB s0 + XA 15 0)]) (x_invS (argsL := [.int n, .int (1 : Int32), .int (99 : Int32)]) hx hb hown (hts _ w_664) (hts _ w_665) (hts _ w_38) (x_code (hts _ w_666)) ⟨by decide, by decide⟩ rfl rfl rfl d_MO_use_25) (c_MO_in h0 σ n (1 : Int32) (99 : Int32)) (xs_cw h0 hW0 m_666) (hts _ w_38) ⟨rfl, rfl, Nat.le_of_ble_eq_true rfl, Nat.le_of_ble_eq_true rfl⟩ (hl.1.trans hml.symm) (by rw [hb]; exact d_MO_use_25) (Nat.le_of_ble_eq_true rfl) ⟨Nat.le_of_ble_eq_true rfl, Nat.le_of_ble_eq_true rfl⟩ hX ⟨hW0, xo_S hS⟩ ?_
    refine lv_if_ne (tgt := 35) hx hb d_MO_use_28 (by decide) (fun c28 => ?_) (fun c28 => ?_)
    · rw [if_neg c28] at hR
      refine lv_iconst (v := 0) hx hb d_MO_use_35 (by decide) ?_
      refine lv_iload hx hb d_MO_use_36 (lv_at hl 0 rfl) ?_
      refine lv_if_ne (tgt := 67) hx hb d_MO_use_38 (by decide) (fun c38 => ?_) (fun c38 => ?_)
      · exact absurd (by decide) c38
      · refine lv_aload_n hx hb d_MO_use_41 rfl (lv_at hl 1 rfl) ?_
        refine xw_get (C := R_MO) (T := F_MO) (N := 20) (r := 15) (i := 0) hx hb hts hi_MO hown hK hX (by decide) rfl rfl 16 (by decide) (hts _ w_611) rfl rfl d_MO_use_42 ?_
        refine lv_sipush (v := 240) hx hb d_MO_use_45 (by decide) ?_
        refine lv_iload_n hx hb d_MO_use_48 rfl (lv_at hl 2 rfl) ?_
        refine lv_imul hx hb d_MO_use_49 ?_
        refine lv_bipush (v := 30) hx hb d_MO_use_50 (by decide) ?_
        refine lv_iload_n hx hb d_MO_use_52 rfl (lv_at hl 3 rfl) ?_
        refine lv_imul hx hb d_MO_use_53 ?_
        refine lv_iadd hx hb d_MO_use_54 ?_
        refine lv_iload_n hx hb d_MO_use_55 rfl (lv_at hl 4 rfl) ?_
        refine lv_iadd hx hb d_MO_use_56 ?_
        refine xw_iald (r := 28) (i := 0) hx hb hK hX (by decide) 0 rfl rfl (j := ((((240 : Int32) * v) + ((30 : Int32) * cu)) + it)) (o_c3 hv hc hi) d_MO_use_57 ?_
        refine lv_iload hx hb d_MO_use_58 (lv_at hl 5 rfl) ?_
        refine lv_icmp_ge (tgt := 67) hx hb d_MO_use_60 (by decide) (fun c60 => ?_) (fun c60 => ?_)
        · rw [if_pos c60] at hR
          refine lv_iconst (v := 0) hx hb d_MO_use_67 (by decide) ?_
          refine lv_iconst (v := 0) hx hb d_MO_use_68 (by decide) ?_
          obtain ⟨cB69, hcB69, hoB69, hkB69⟩ := xw_recv (r := 15) (i := 0) hK hX (by decide) rfl rfl
          refine xc_s (rest := []) (x_invV (argsL := [.int (0 : Int32), .int (0 : Int32), .int (0 : Int32), .int (0 : Int32)]) hx hb hown (hts _ w_671) (hts _ w_673) (hts _ w_20) (x_code (hts _ w_674)) ⟨by decide, by decide⟩ hcB69 hoB69 hkB69 rfl rfl rfl d_MO_use_69) (c_MO_throwing h0 σ (0 : Int32) (0 : Int32) (0 : Int32) (0 : Int32)) (xs_cw h0 hW0 m_674) (hts _ w_38) ⟨rfl, rfl, Nat.le_of_ble_eq_true rfl, Nat.le_of_ble_eq_true rfl⟩ (hl.1.trans hml.symm) (by rw [hb]; exact d_MO_use_69) (Nat.le_of_ble_eq_true rfl) ⟨Nat.le_of_ble_eq_true rfl, Nat.le_of_ble_eq_true rfl⟩ hX hW0 hS (fun v69 σ69 H locs hM69 hX hS => ?_) (fun E x H1 locs1 hM => by cases hM)
          obtain ⟨ev69, es69⟩ := x_inl hM69
          subst es69
          subst ev69
          refine lv_if_eq (tgt := 77) hx hb d_MO_use_72 (by decide) (fun c72 => ?_) (fun c72 => ?_)
          · refine lv_aload_n hx hb d_MO_use_77 rfl (lv_at hl 1 rfl) ?_
            refine xw_get (C := R_MO) (T := F_MO) (N := 20) (r := 15) (i := 0) hx hb hts hi_MO hown hK hX (by decide) rfl rfl 16 (by decide) (hts _ w_611) rfl rfl d_MO_use_78 ?_
            refine lv_sipush (v := 240) hx hb d_MO_use_81 (by decide) ?_
            refine lv_iload_n hx hb d_MO_use_84 rfl (lv_at hl 2 rfl) ?_
            refine lv_imul hx hb d_MO_use_85 ?_
            refine lv_bipush (v := 30) hx hb d_MO_use_86 (by decide) ?_
            refine lv_iload_n hx hb d_MO_use_88 rfl (lv_at hl 3 rfl) ?_
            refine lv_imul hx hb d_MO_use_89 ?_
            refine lv_iadd hx hb d_MO_use_90 ?_
            refine lv_iload_n hx hb d_MO_use_91 rfl (lv_at hl 4 rfl) ?_
            refine lv_iadd hx hb d_MO_use_92 ?_
            refine lv_dup2_11 hx hb d_MO_use_93 rfl rfl ?_
            refine xw_iald (r := 28) (i := 0) hx hb hK hX (by decide) 0 rfl rfl (j := ((((240 : Int32) * v) + ((30 : Int32) * cu)) + it)) (o_c3 hv hc hi) d_MO_use_94 ?_
            refine lv_iload hx hb d_MO_use_95 (lv_at hl 5 rfl) ?_
            refine lv_isub hx hb d_MO_use_97 ?_
            refine xw_iast (r := 28) (i := 0) (ent' := XE dA (xB s0) (xuI (S_MO_throwing σ (0 : Int32) (0 : Int32) (0 : Int32) (0 : Int32)).2 28 0 ((((240 : Int32) * v) + ((30 : Int32) * cu)) + it).toNatClampNeg ((((S_MO_throwing σ (0 : Int32) (0 : Int32) (0 : Int32) (0 : Int32)).2).1 28 0 ((((240 : Int32) * v) + ((30 : Int32) * cu)) + it).toNatClampNeg) - n))) hx hb hK xInj hX hS (xA_in _ _ _) (by decide) 0 rfl rfl (j := ((((240 : Int32) * v) + ((30 : Int32) * cu)) + it)) (o_c3 hv hc hi) ((xe_uI dA (xB s0) ((S_MO_throwing σ (0 : Int32) (0 : Int32) (0 : Int32) (0 : Int32)).2) 28 0 ((((240 : Int32) * v) + ((30 : Int32) * cu)) + it).toNatClampNeg ((((S_MO_throwing σ (0 : Int32) (0 : Int32) (0 : Int32) (0 : Int32)).2).1 28 0 ((((240 : Int32) * v) + ((30 : Int32) * cu)) + it).toNatClampNeg) - n)).trans rfl) (xe_oI dA (xB s0) ((S_MO_throwing σ (0 : Int32) (0 : Int32) (0 : Int32) (0 : Int32)).2) 28 0 ((((240 : Int32) * v) + ((30 : Int32) * cu)) + it).toNatClampNeg ((((S_MO_throwing σ (0 : Int32) (0 : Int32) (0 : Int32) (0 : Int32)).2).1 28 0 ((((240 : Int32) * v) + ((30 : Int32) * cu)) + it).toNatClampNeg) - n)) d_MO_use_98 (fun H locs hX hS => ?_)
            refine lv_aload_n hx hb d_MO_use_99 rfl (lv_at hl 1 rfl) ?_
            refine xw_get (C := R_MO) (T := F_MO) (N := 20) (r := 15) (i := 0) hx hb hts hi_MO hown hK hX (by decide) rfl rfl 16 (by decide) (hts _ w_611) rfl rfl d_MO_use_100 ?_
            refine lv_sipush (v := 240) hx hb d_MO_use_103 (by decide) ?_
            refine lv_iload_n hx hb d_MO_use_106 rfl (lv_at hl 2 rfl) ?_
            refine lv_imul hx hb d_MO_use_107 ?_
            refine lv_bipush (v := 30) hx hb d_MO_use_108 (by decide) ?_
            refine lv_iload_n hx hb d_MO_use_110 rfl (lv_at hl 3 rfl) ?_
            refine lv_imul hx hb d_MO_use_111 ?_
            refine lv_iadd hx hb d_MO_use_112 ?_
            refine lv_iload_n hx hb d_MO_use_113 rfl (lv_at hl 4 rfl) ?_
            refine lv_iadd hx hb d_MO_use_114 ?_
            refine xw_iald (r := 28) (i := 0) hx hb hK hX (by decide) 0 rfl rfl (j := ((((240 : Int32) * v) + ((30 : Int32) * cu)) + it)) (o_c3 hv hc hi) d_MO_use_115 ?_
            subst hR
            refine W.widen (k := 0) (n := 0) (by decide) (by decide) ?_; exact xs_i hx hb hr hlocks hX hS d_MO_use_116
          · exact absurd thr_z c72
        · rw [if_neg c60] at hR
          refine lv_iconst (v := 1) hx hb d_MO_use_63 (by decide) ?_
          refine lv_goto (tgt := 68) hx hb d_MO_use_64 (by decide) ?_
          refine lv_iconst (v := 0) hx hb d_MO_use_68 (by decide) ?_
          obtain ⟨cB69, hcB69, hoB69, hkB69⟩ := xw_recv (r := 15) (i := 0) hK hX (by decide) rfl rfl
          refine xc_s (rest := []) (x_invV (argsL := [.int (0 : Int32), .int (0 : Int32), .int (1 : Int32), .int (0 : Int32)]) hx hb hown (hts _ w_671) (hts _ w_673) (hts _ w_20) (x_code (hts _ w_674)) ⟨by decide, by decide⟩ hcB69 hoB69 hkB69 rfl rfl rfl d_MO_use_69) (c_MO_throwing h0 σ (0 : Int32) (0 : Int32) (1 : Int32) (0 : Int32)) (xs_cw h0 hW0 m_674) (hts _ w_38) ⟨rfl, rfl, Nat.le_of_ble_eq_true rfl, Nat.le_of_ble_eq_true rfl⟩ (hl.1.trans hml.symm) (by rw [hb]; exact d_MO_use_69) (Nat.le_of_ble_eq_true rfl) ⟨Nat.le_of_ble_eq_true rfl, Nat.le_of_ble_eq_true rfl⟩ hX hW0 hS (fun v69 σ69 H locs hM69 hX hS => ?_) (fun E x H1 locs1 hM => by cases hM)
          obtain ⟨ev69, es69⟩ := x_inl hM69
          subst es69
          subst ev69
          refine lv_if_eq (tgt := 77) hx hb d_MO_use_72 (by decide) (fun c72 => ?_) (fun c72 => ?_)
          · exact absurd c72 (thr_n3 (by decide))
          · refine lv_iconst (v := 0) hx hb d_MO_use_75 (by decide) ?_
            subst hR
            refine W.widen (k := 0) (n := 0) (by decide) (by decide) ?_; exact xs_i hx hb hr hlocks hX hS d_MO_use_76
    · rw [if_pos c28] at hR
      refine lv_iconst (v := 1) hx hb d_MO_use_31 (by decide) ?_
      refine lv_goto (tgt := 36) hx hb d_MO_use_32 (by decide) ?_
      refine lv_iload hx hb d_MO_use_36 (lv_at hl 0 rfl) ?_
      refine lv_if_ne (tgt := 67) hx hb d_MO_use_38 (by decide) (fun c38 => ?_) (fun c38 => ?_)
      · exact absurd (by decide) c38
      · refine lv_aload_n hx hb d_MO_use_41 rfl (lv_at hl 1 rfl) ?_
        refine xw_get (C := R_MO) (T := F_MO) (N := 20) (r := 15) (i := 0) hx hb hts hi_MO hown hK hX (by decide) rfl rfl 16 (by decide) (hts _ w_611) rfl rfl d_MO_use_42 ?_
        refine lv_sipush (v := 240) hx hb d_MO_use_45 (by decide) ?_
        refine lv_iload_n hx hb d_MO_use_48 rfl (lv_at hl 2 rfl) ?_
        refine lv_imul hx hb d_MO_use_49 ?_
        refine lv_bipush (v := 30) hx hb d_MO_use_50 (by decide) ?_
        refine lv_iload_n hx hb d_MO_use_52 rfl (lv_at hl 3 rfl) ?_
        refine lv_imul hx hb d_MO_use_53 ?_
        refine lv_iadd hx hb d_MO_use_54 ?_
        refine lv_iload_n hx hb d_MO_use_55 rfl (lv_at hl 4 rfl) ?_
        refine lv_iadd hx hb d_MO_use_56 ?_
        refine xw_iald (r := 28) (i := 0) hx hb hK hX (by decide) 0 rfl rfl (j := ((((240 : Int32) * v) + ((30 : Int32) * cu)) + it)) (o_c3 hv hc hi) d_MO_use_57 ?_
        refine lv_iload hx hb d_MO_use_58 (lv_at hl 5 rfl) ?_
        refine lv_icmp_ge (tgt := 67) hx hb d_MO_use_60 (by decide) (fun c60 => ?_) (fun c60 => ?_)
        · rw [if_pos c60] at hR
          refine lv_iconst (v := 0) hx hb d_MO_use_67 (by decide) ?_
          refine lv_iconst (v := 0) hx hb d_MO_use_68 (by decide) ?_
          obtain ⟨cB69, hcB69, hoB69, hkB69⟩ := xw_recv (r := 15) (i := 0) hK hX (by decide) rfl rfl
          refine xc_s (rest := []) (x_invV (argsL := [.int (0 : Int32), .int (1 : Int32), .int (0 : Int32), .int (0 : Int32)]) hx hb hown (hts _ w_671) (hts _ w_673) (hts _ w_20) (x_code (hts _ w_674)) ⟨by decide, by decide⟩ hcB69 hoB69 hkB69 rfl rfl rfl d_MO_use_69) (c_MO_throwing h0 σ (0 : Int32) (1 : Int32) (0 : Int32) (0 : Int32)) (xs_cw h0 hW0 m_674) (hts _ w_38) ⟨rfl, rfl, Nat.le_of_ble_eq_true rfl, Nat.le_of_ble_eq_true rfl⟩ (hl.1.trans hml.symm) (by rw [hb]; exact d_MO_use_69) (Nat.le_of_ble_eq_true rfl) ⟨Nat.le_of_ble_eq_true rfl, Nat.le_of_ble_eq_true rfl⟩ hX hW0 hS (fun v69 σ69 H locs hM69 hX hS => ?_) (fun E x H1 locs1 hM => by cases hM)
          obtain ⟨ev69, es69⟩ := x_inl hM69
          subst es69
          subst ev69
          refine lv_if_eq (tgt := 77) hx hb d_MO_use_72 (by decide) (fun c72 => ?_) (fun c72 => ?_)
          · exact absurd c72 (thr_n2 (by decide))
          · refine lv_iconst (v := 0) hx hb d_MO_use_75 (by decide) ?_
            subst hR
            refine W.widen (k := 0) (n := 0) (by decide) (by decide) ?_; exact xs_i hx hb hr hlocks hX hS d_MO_use_76
        · rw [if_neg c60] at hR
          refine lv_iconst (v := 1) hx hb d_MO_use_63 (by decide) ?_
          refine lv_goto (tgt := 68) hx hb d_MO_use_64 (by decide) ?_
          refine lv_iconst (v := 0) hx hb d_MO_use_68 (by decide) ?_
          obtain ⟨cB69, hcB69, hoB69, hkB69⟩ := xw_recv (r := 15) (i := 0) hK hX (by decide) rfl rfl
          refine xc_s (rest := []) (x_invV (argsL := [.int (0 : Int32), .int (1 : Int32), .int (1 : Int32), .int (0 : Int32)]) hx hb hown (hts _ w_671) (hts _ w_673) (hts _ w_20) (x_code (hts _ w_674)) ⟨by decide, by decide⟩ hcB69 hoB69 hkB69 rfl rfl rfl d_MO_use_69) (c_MO_throwing h0 σ (0 : Int32) (1 : Int32) (1 : Int32) (0 : Int32)) (xs_cw h0 hW0 m_674) (hts _ w_38) ⟨rfl, rfl, Nat.le_of_ble_eq_true rfl, Nat.le_of_ble_eq_true rfl⟩ (hl.1.trans hml.symm) (by rw [hb]; exact d_MO_use_69) (Nat.le_of_ble_eq_true rfl) ⟨Nat.le_of_ble_eq_true rfl, Nat.le_of_ble_eq_true rfl⟩ hX hW0 hS (fun v69 σ69 H locs hM69 hX hS => ?_) (fun E x H1 locs1 hM => by cases hM)
          obtain ⟨ev69, es69⟩ := x_inl hM69
          subst es69
          subst ev69
          refine lv_if_eq (tgt := 77) hx hb d_MO_use_72 (by decide) (fun c72 => ?_) (fun c72 => ?_)
          · exact absurd c72 (thr_n2 (by decide))
          · refine lv_iconst (v := 0) hx hb d_MO_use_75 (by decide) ?_
            subst hR
            refine W.widen (k := 0) (n := 0) (by decide) (by decide) ?_; exact xs_i hx hb hr hlocks hX hS d_MO_use_76
  · rw [if_pos c7] at hR
    refine lv_iconst (v := 1) hx hb d_MO_use_10 (by decide) ?_
    refine lv_goto (tgt := 15) hx hb d_MO_use_11 (by decide) ?_
    refine lv_istore (lv' := [(5, .int (1 : Int32)), (0, .ref (xB s0 + XA 15 0)), (1, .int v), (2, .int cu), (3, .int it), (4, .int n)]) hx hb d_MO_use_15 hl (by decide) rfl (fun ls hl => ?_)
    refine lv_aload_n hx hb d_MO_use_17 rfl (lv_at hl 1 rfl) ?_
    refine lv_iload hx hb d_MO_use_18 (lv_at hl 0 rfl) ?_
    refine lv_iload hx hb d_MO_use_20 (lv_at hl 5 rfl) ?_
    refine lv_iconst (v := 1) hx hb d_MO_use_22 (by decide) ?_
    refine lv_bipush (v := 99) hx hb d_MO_use_23 (by decide) ?_
    refine xc_f (rest := [.int (1 : Int32), .ref (xB s0 + XA 15 0)]) (x_invS (argsL := [.int n, .int (1 : Int32), .int (99 : Int32)]) hx hb hown (hts _ w_664) (hts _ w_665) (hts _ w_38) (x_code (hts _ w_666)) ⟨by decide, by decide⟩ rfl rfl rfl d_MO_use_25) (c_MO_in h0 σ n (1 : Int32) (99 : Int32)) (xs_cw h0 hW0 m_666) (hts _ w_38) ⟨rfl, rfl, Nat.le_of_ble_eq_true rfl, Nat.le_of_ble_eq_true rfl⟩ (hl.1.trans hml.symm) (by rw [hb]; exact d_MO_use_25) (Nat.le_of_ble_eq_true rfl) ⟨Nat.le_of_ble_eq_true rfl, Nat.le_of_ble_eq_true rfl⟩ hX ⟨hW0, xo_S hS⟩ ?_
    refine lv_if_ne (tgt := 35) hx hb d_MO_use_28 (by decide) (fun c28 => ?_) (fun c28 => ?_)
    · rw [if_neg c28] at hR
      refine lv_iconst (v := 0) hx hb d_MO_use_35 (by decide) ?_
      refine lv_iload hx hb d_MO_use_36 (lv_at hl 0 rfl) ?_
      refine lv_if_ne (tgt := 67) hx hb d_MO_use_38 (by decide) (fun c38 => ?_) (fun c38 => ?_)
      · refine lv_iconst (v := 0) hx hb d_MO_use_67 (by decide) ?_
        refine lv_iconst (v := 0) hx hb d_MO_use_68 (by decide) ?_
        obtain ⟨cB69, hcB69, hoB69, hkB69⟩ := xw_recv (r := 15) (i := 0) hK hX (by decide) rfl rfl
        refine xc_s (rest := []) (x_invV (argsL := [.int (1 : Int32), .int (0 : Int32), .int (0 : Int32), .int (0 : Int32)]) hx hb hown (hts _ w_671) (hts _ w_673) (hts _ w_20) (x_code (hts _ w_674)) ⟨by decide, by decide⟩ hcB69 hoB69 hkB69 rfl rfl rfl d_MO_use_69) (c_MO_throwing h0 σ (1 : Int32) (0 : Int32) (0 : Int32) (0 : Int32)) (xs_cw h0 hW0 m_674) (hts _ w_38) ⟨rfl, rfl, Nat.le_of_ble_eq_true rfl, Nat.le_of_ble_eq_true rfl⟩ (hl.1.trans hml.symm) (by rw [hb]; exact d_MO_use_69) (Nat.le_of_ble_eq_true rfl) ⟨Nat.le_of_ble_eq_true rfl, Nat.le_of_ble_eq_true rfl⟩ hX hW0 hS (fun v69 σ69 H locs hM69 hX hS => ?_) (fun E x H1 locs1 hM => by cases hM)
        obtain ⟨ev69, es69⟩ := x_inl hM69
        subst es69
        subst ev69
        refine lv_if_eq (tgt := 77) hx hb d_MO_use_72 (by decide) (fun c72 => ?_) (fun c72 => ?_)
        · exact absurd c72 (thr_n1 (by decide))
        · refine lv_iconst (v := 0) hx hb d_MO_use_75 (by decide) ?_
          subst hR
          refine W.widen (k := 0) (n := 0) (by decide) (by decide) ?_; exact xs_i hx hb hr hlocks hX hS d_MO_use_76
      · exact absurd c38 (by decide)
    · rw [if_pos c28] at hR
      refine lv_iconst (v := 1) hx hb d_MO_use_31 (by decide) ?_
      refine lv_goto (tgt := 36) hx hb d_MO_use_32 (by decide) ?_
      refine lv_iload hx hb d_MO_use_36 (lv_at hl 0 rfl) ?_
      refine lv_if_ne (tgt := 67) hx hb d_MO_use_38 (by decide) (fun c38 => ?_) (fun c38 => ?_)
      · refine lv_iconst (v := 0) hx hb d_MO_use_67 (by decide) ?_
        refine lv_iconst (v := 0) hx hb d_MO_use_68 (by decide) ?_
        obtain ⟨cB69, hcB69, hoB69, hkB69⟩ := xw_recv (r := 15) (i := 0) hK hX (by decide) rfl rfl
        refine xc_s (rest := []) (x_invV (argsL := [.int (1 : Int32), .int (1 : Int32), .int (0 : Int32), .int (0 : Int32)]) hx hb hown (hts _ w_671) (hts _ w_673) (hts _ w_20) (x_code (hts _ w_674)) ⟨by decide, by decide⟩ hcB69 hoB69 hkB69 rfl rfl rfl d_MO_use_69) (c_MO_throwing h0 σ (1 : Int32) (1 : Int32) (0 : Int32) (0 : Int32)) (xs_cw h0 hW0 m_674) (hts _ w_38) ⟨rfl, rfl, Nat.le_of_ble_eq_true rfl, Nat.le_of_ble_eq_true rfl⟩ (hl.1.trans hml.symm) (by rw [hb]; exact d_MO_use_69) (Nat.le_of_ble_eq_true rfl) ⟨Nat.le_of_ble_eq_true rfl, Nat.le_of_ble_eq_true rfl⟩ hX hW0 hS (fun v69 σ69 H locs hM69 hX hS => ?_) (fun E x H1 locs1 hM => by cases hM)
        obtain ⟨ev69, es69⟩ := x_inl hM69
        subst es69
        subst ev69
        refine lv_if_eq (tgt := 77) hx hb d_MO_use_72 (by decide) (fun c72 => ?_) (fun c72 => ?_)
        · exact absurd c72 (thr_n1 (by decide))
        · refine lv_iconst (v := 0) hx hb d_MO_use_75 (by decide) ?_
          subst hR
          refine W.widen (k := 0) (n := 0) (by decide) (by decide) ?_; exact xs_i hx hb hr hlocks hX hS d_MO_use_76
      · exact absurd c38 (by decide)

abbrev rm_MO_replace : Room := { frames := 4, cells := 0, slots := 0, locals := 97 }
def L_MO_replace : Nat → XS → Int32 → Int32 → Int32 → Int32 × XS
  | 0, _, _, _, _ => default
  | n + 1, σ, v, x2, x3 => (if (240 : Int32) ≤ x3 then (x2, σ) else (if (σ.1 18 0 (x3 - x3 / (30 : Int32) * (30 : Int32)).toNatClampNeg) ≤ (S_MO_missingOf σ v x3) then (if (σ.1 18 0 (x3 - x3 / (30 : Int32) * (30 : Int32)).toNatClampNeg) ≤ 0 then (L_MO_replace n σ v x2 (x3 + 1)) else (if (S_MO_isTooMuch σ v (x3 / (30 : Int32)) (x3 - x3 / (30 : Int32) * (30 : Int32)) (σ.1 18 0 (x3 - x3 / (30 : Int32) * (30 : Int32)).toNatClampNeg)).1 = 0 then (L_MO_replace n (xuI (xuI σ 28 0 (((240 : Int32) * v) + x3).toNatClampNeg ((σ.1 28 0 (((240 : Int32) * v) + x3).toNatClampNeg) + (σ.1 18 0 (x3 - x3 / (30 : Int32) * (30 : Int32)).toNatClampNeg))) 18 0 (x3 - x3 / (30 : Int32) * (30 : Int32)).toNatClampNeg (((xuI σ 28 0 (((240 : Int32) * v) + x3).toNatClampNeg ((σ.1 28 0 (((240 : Int32) * v) + x3).toNatClampNeg) + (σ.1 18 0 (x3 - x3 / (30 : Int32) * (30 : Int32)).toNatClampNeg))).1 18 0 (x3 - x3 / (30 : Int32) * (30 : Int32)).toNatClampNeg) - (σ.1 18 0 (x3 - x3 / (30 : Int32) * (30 : Int32)).toNatClampNeg))) v (x2 + (σ.1 18 0 (x3 - x3 / (30 : Int32) * (30 : Int32)).toNatClampNeg)) (x3 + 1)) else (L_MO_replace n σ v x2 (x3 + 1)))) else (if (S_MO_missingOf σ v x3) ≤ 0 then (L_MO_replace n σ v x2 (x3 + 1)) else (if (S_MO_isTooMuch σ v (x3 / (30 : Int32)) (x3 - x3 / (30 : Int32) * (30 : Int32)) (S_MO_missingOf σ v x3)).1 = 0 then (L_MO_replace n (xuI (xuI σ 28 0 (((240 : Int32) * v) + x3).toNatClampNeg ((σ.1 28 0 (((240 : Int32) * v) + x3).toNatClampNeg) + (S_MO_missingOf σ v x3))) 18 0 (x3 - x3 / (30 : Int32) * (30 : Int32)).toNatClampNeg (((xuI σ 28 0 (((240 : Int32) * v) + x3).toNatClampNeg ((σ.1 28 0 (((240 : Int32) * v) + x3).toNatClampNeg) + (S_MO_missingOf σ v x3))).1 18 0 (x3 - x3 / (30 : Int32) * (30 : Int32)).toNatClampNeg) - (S_MO_missingOf σ v x3))) v (x2 + (S_MO_missingOf σ v x3)) (x3 + 1)) else (L_MO_replace n σ v x2 (x3 + 1))))))
def S_MO_replace (σ : XS) (v : Int32) : Int32 × XS := (if (S_MO_isVehicle σ v) = 0 then ((0 : Int32), (S_MO_throwing σ (1 : Int32) (0 : Int32) (0 : Int32) (0 : Int32)).2) else (L_MO_replace 241 ((S_MO_throwing σ (0 : Int32) (0 : Int32) (0 : Int32) (0 : Int32)).2) v (0 : Int32) (0 : Int32)))
set_option maxHeartbeats 4000000 in
set_option maxRecDepth 100000 in
theorem l_MO_replace {l : Launch} {s0 : State} {A0 : Array Value} {D : va_G} {dA : Nat → ClassId} (h0 : XS0 l s0 A0 D dA) {p : Program} {e : Env} {s : State} {m : MethodId} {args : Array Value} {below : List Frame} {meth : Method} {c : Code} (hx : p.tables.exec = Jvm.exec) (hb : c.code = b_MO_replace) (hr : meth.sig.returnType = (some .int)) (hml : c.maxLocals = 6) (hown : s.vm.findClass "LoadChecksModel" = some m.cls) (hlocks : meth.locks = false) (hnt : c.exceptionTable.isEmpty = true) (hO : XO s0 s s.heap) :
    ∀ (n : Nat) (σ : XS) (v : Int32) (x2 : Int32) (x3 : Int32) (k : Nat), x3 = nI k → k + n = 241 → k < 241 → MOk σ → vp_in v 16 → ∀ {H : Heap} {locs : List Loc}, XWs D dA s0 σ H → va_S (xAm s0) s0.heap H locs → ∀ (ls : Array Slot), lv_has ls 6 [(0, .ref (xB s0 + XA 15 0)), (1, .int v), (2, .int x2), (3, .int x3)] → ∀ res, L_MO_replace n σ v x2 x3 = res →
    W p l e rm_MO_replace s m args below meth c H locs 0 0 (XMQ below (XQs D dA s0 xv_i (.inl res)) args s 0 0 (xAm s0)) (F0 m 29 ls []) := by
  have hW0 := hO.1
  have hts := xs_w (args := args) h0 hW0
  have hK := xs_K h0 hW0
  intro n
  induction n with
  | zero =>
    intro σ v x2 x3 k e1 h2 h3
    exact absurd h2 (by omega)
  | succ n ih =>
    intro σ v x2 x3 k e_x3 hkn hkF hok hv H locs hX hS ls hl res hR
    rw [L_MO_replace] at hR
    refine lv_iload_n hx hb d_MO_replace_29 rfl (lv_at hl 3 rfl) ?_
    refine lv_sipush (v := 240) hx hb d_MO_replace_30 (by decide) ?_
    refine lv_icmp_ge (tgt := 137) hx hb d_MO_replace_33 (by decide) (fun c33 => ?_) (fun c33 => ?_)
    · rw [if_pos c33] at hR
      refine lv_iload_n hx hb d_MO_replace_137 rfl (lv_at hl 2 rfl) ?_
      subst hR
      refine W.widen (k := 0) (n := 0) (by decide) (by decide) ?_; exact xs_i hx hb hr hlocks hX hS d_MO_replace_138
    · rw [if_neg c33] at hR
      have hq : k < 240 := x_klt (b := 240) rfl (by decide) (by omega) e_x3 c33
      have hkx : vp_in x3 240 := o_nI e_x3 hq (by decide)
      refine lv_aload_n hx hb d_MO_replace_36 rfl (lv_at hl 0 rfl) ?_
      refine lv_iload_n hx hb d_MO_replace_37 rfl (lv_at hl 1 rfl) ?_
      refine lv_iload_n hx hb d_MO_replace_38 rfl (lv_at hl 3 rfl) ?_
      obtain ⟨cB39, hcB39, hoB39, hkB39⟩ := xw_recv (r := 15) (i := 0) hK hX (by decide) rfl rfl
      refine xc_f (rest := []) (x_invV (argsL := [.int v, .int x3]) hx hb hown (hts _ w_750) (hts _ w_752) (hts _ w_30) (x_code (hts _ w_753)) ⟨by decide, by decide⟩ hcB39 hoB39 hkB39 rfl rfl rfl d_MO_replace_39) (c_MO_missingOf h0 σ v x3 hok.2.1 hv hkx) (xs_cw h0 hW0 m_753) (hts _ w_38) ⟨rfl, rfl, Nat.le_of_ble_eq_true rfl, Nat.le_of_ble_eq_true rfl⟩ (hl.1.trans hml.symm) (by rw [hb]; exact d_MO_replace_39) (Nat.le_of_ble_eq_true rfl) ⟨Nat.le_of_ble_eq_true rfl, Nat.le_of_ble_eq_true rfl⟩ hX ⟨hW0, xo_S hS⟩ ?_
      refine lv_istore (lv' := [(4, .int (S_MO_missingOf σ v x3)), (0, .ref (xB s0 + XA 15 0)), (1, .int v), (2, .int x2), (3, .int x3)]) hx hb d_MO_replace_42 hl (by decide) rfl (fun ls hl => ?_)
      refine lv_iload_n hx hb d_MO_replace_44 rfl (lv_at hl 4 rfl) ?_
      refine lv_bipush (v := 30) hx hb d_MO_replace_45 (by decide) ?_
      refine lv_irem hx hb d_MO_replace_47 (by decide) ?_
      refine lv_istore (lv' := [(5, .int (x3 - x3 / (30 : Int32) * (30 : Int32))), (4, .int (S_MO_missingOf σ v x3)), (0, .ref (xB s0 + XA 15 0)), (1, .int v), (2, .int x2), (3, .int x3)]) hx hb d_MO_replace_48 hl (by decide) rfl (fun ls hl => ?_)
      refine lv_iload hx hb d_MO_replace_50 (lv_at hl 1 rfl) ?_
      refine lv_aload_n hx hb d_MO_replace_52 rfl (lv_at hl 2 rfl) ?_
      refine xw_get (C := R_MO) (T := F_MO) (N := 20) (r := 15) (i := 0) hx hb hts hi_MO hown hK hX (by decide) rfl rfl 5 (by decide) (hts _ w_600) rfl rfl d_MO_replace_53 ?_
      refine lv_iload hx hb d_MO_replace_56 (lv_at hl 0 rfl) ?_
      refine xw_iald (r := 18) (i := 0) hx hb hK hX (by decide) 0 rfl rfl (j := (x3 - x3 / (30 : Int32) * (30 : Int32))) (o_rem hkx) d_MO_replace_58 ?_
      refine lv_icmp_ge (tgt := 67) hx hb d_MO_replace_59 (by decide) (fun c59 => ?_) (fun c59 => ?_)
      · rw [if_pos c59] at hR
        refine lv_aload_n hx hb d_MO_replace_67 rfl (lv_at hl 2 rfl) ?_
        refine xw_get (C := R_MO) (T := F_MO) (N := 20) (r := 15) (i := 0) hx hb hts hi_MO hown hK hX (by decide) rfl rfl 5 (by decide) (hts _ w_600) rfl rfl d_MO_replace_68 ?_
        refine lv_iload hx hb d_MO_replace_71 (lv_at hl 0 rfl) ?_
        refine xw_iald (r := 18) (i := 0) hx hb hK hX (by decide) 0 rfl rfl (j := (x3 - x3 / (30 : Int32) * (30 : Int32))) (o_rem hkx) d_MO_replace_73 ?_
        refine lv_istore (lv' := [(4, .int (σ.1 18 0 (x3 - x3 / (30 : Int32) * (30 : Int32)).toNatClampNeg)), (5, .int (x3 - x3 / (30 : Int32) * (30 : Int32))), (0, .ref (xB s0 + XA 15 0)), (1, .int v), (2, .int x2), (3, .int x3)]) hx hb d_MO_replace_74 hl (by decide) rfl (fun ls hl => ?_)
        refine lv_iload hx hb d_MO_replace_76 (lv_at hl 0 rfl) ?_
        refine lv_if_le (tgt := 131) hx hb d_MO_replace_78 (by decide) (fun c78 => ?_) (fun c78 => ?_)
        · rw [if_pos c78] at hR
          refine lv_iinc (v := (x3 + 1)) (lv' := [(3, .int (x3 + 1)), (4, .int (σ.1 18 0 (x3 - x3 / (30 : Int32) * (30 : Int32)).toNatClampNeg)), (5, .int (x3 - x3 / (30 : Int32) * (30 : Int32))), (0, .ref (xB s0 + XA 15 0)), (1, .int v), (2, .int x2)]) hx hb d_MO_replace_131 hl (k := 5) rfl rfl (by decide) rfl (fun ls hl => ?_)
          refine lv_goto (tgt := 29) hx hb d_MO_replace_134 (by decide) ?_
          exact ih σ v x2 (x3 + 1) (k + 1) (by rw [e_x3]; exact nI_1 k) (by omega) (by omega)  hok hv hX hS ls (lv_sub hl [3, 4, 5, 0] rfl) res hR
        · rw [if_neg c78] at hR
          refine lv_aload_n hx hb d_MO_replace_81 rfl (lv_at hl 2 rfl) ?_
          refine lv_iload_n hx hb d_MO_replace_82 rfl (lv_at hl 3 rfl) ?_
          refine lv_iload_n hx hb d_MO_replace_83 rfl (lv_at hl 5 rfl) ?_
          refine lv_bipush (v := 30) hx hb d_MO_replace_84 (by decide) ?_
          refine lv_idiv hx hb d_MO_replace_86 (by decide) ?_
          refine lv_iload hx hb d_MO_replace_87 (lv_at hl 1 rfl) ?_
          refine lv_iload hx hb d_MO_replace_89 (lv_at hl 0 rfl) ?_
          obtain ⟨cB91, hcB91, hoB91, hkB91⟩ := xw_recv (r := 15) (i := 0) hK hX (by decide) rfl rfl
          refine xc_s (rest := []) (x_invV (argsL := [.int v, .int (x3 / (30 : Int32)), .int (x3 - x3 / (30 : Int32) * (30 : Int32)), .int (σ.1 18 0 (x3 - x3 / (30 : Int32) * (30 : Int32)).toNatClampNeg)]) hx hb hown (hts _ w_722) (hts _ w_724) (hts _ w_25) (x_code (hts _ w_725)) ⟨by decide, by decide⟩ hcB91 hoB91 hkB91 rfl rfl rfl d_MO_replace_91) (c_MO_isTooMuch h0 σ v (x3 / (30 : Int32)) (x3 - x3 / (30 : Int32) * (30 : Int32)) (σ.1 18 0 (x3 - x3 / (30 : Int32) * (30 : Int32)).toNatClampNeg) hv (o_div hkx) (o_rem hkx)) (xs_cw h0 hW0 m_725) (hts _ w_38) ⟨rfl, rfl, Nat.le_of_ble_eq_true rfl, Nat.le_of_ble_eq_true rfl⟩ (hl.1.trans hml.symm) (by rw [hb]; exact d_MO_replace_91) (Nat.le_of_ble_eq_true rfl) ⟨Nat.le_of_ble_eq_true rfl, Nat.le_of_ble_eq_true rfl⟩ hX hW0 hS (fun v91 σ91 H locs hM91 hX hS => ?_) (fun E x H1 locs1 hM => by cases hM)
          obtain ⟨ev91, es91⟩ := x_inl hM91
          rw [es91, tm_same] at hX
          subst ev91
          refine lv_if_ne (tgt := 131) hx hb d_MO_replace_94 (by decide) (fun c94 => ?_) (fun c94 => ?_)
          · rw [if_neg c94] at hR
            refine lv_iinc (v := (x3 + 1)) (lv' := [(3, .int (x3 + 1)), (4, .int (σ.1 18 0 (x3 - x3 / (30 : Int32) * (30 : Int32)).toNatClampNeg)), (5, .int (x3 - x3 / (30 : Int32) * (30 : Int32))), (0, .ref (xB s0 + XA 15 0)), (1, .int v), (2, .int x2)]) hx hb d_MO_replace_131 hl (k := 5) rfl rfl (by decide) rfl (fun ls hl => ?_)
            refine lv_goto (tgt := 29) hx hb d_MO_replace_134 (by decide) ?_
            exact ih σ v x2 (x3 + 1) (k + 1) (by rw [e_x3]; exact nI_1 k) (by omega) (by omega)  hok hv hX hS ls (lv_sub hl [3, 4, 5, 0] rfl) res hR
          · rw [if_pos c94] at hR
            refine lv_aload_n hx hb d_MO_replace_97 rfl (lv_at hl 2 rfl) ?_
            refine xw_get (C := R_MO) (T := F_MO) (N := 20) (r := 15) (i := 0) hx hb hts hi_MO hown hK hX (by decide) rfl rfl 16 (by decide) (hts _ w_611) rfl rfl d_MO_replace_98 ?_
            refine lv_sipush (v := 240) hx hb d_MO_replace_101 (by decide) ?_
            refine lv_iload_n hx hb d_MO_replace_104 rfl (lv_at hl 3 rfl) ?_
            refine lv_imul hx hb d_MO_replace_105 ?_
            refine lv_iload_n hx hb d_MO_replace_106 rfl (lv_at hl 5 rfl) ?_
            refine lv_iadd hx hb d_MO_replace_107 ?_
            refine lv_dup2_11 hx hb d_MO_replace_108 rfl rfl ?_
            refine xw_iald (r := 28) (i := 0) hx hb hK hX (by decide) 0 rfl rfl (j := (((240 : Int32) * v) + x3)) (o_c2 hv hkx) d_MO_replace_109 ?_
            refine lv_iload hx hb d_MO_replace_110 (lv_at hl 0 rfl) ?_
            refine lv_iadd hx hb d_MO_replace_112 ?_
            refine xw_iast (r := 28) (i := 0) (ent' := XE dA (xB s0) (xuI σ 28 0 (((240 : Int32) * v) + x3).toNatClampNeg ((σ.1 28 0 (((240 : Int32) * v) + x3).toNatClampNeg) + (σ.1 18 0 (x3 - x3 / (30 : Int32) * (30 : Int32)).toNatClampNeg)))) hx hb hK xInj hX hS (xA_in _ _ _) (by decide) 0 rfl rfl (j := (((240 : Int32) * v) + x3)) (o_c2 hv hkx) ((xe_uI dA (xB s0) σ 28 0 (((240 : Int32) * v) + x3).toNatClampNeg ((σ.1 28 0 (((240 : Int32) * v) + x3).toNatClampNeg) + (σ.1 18 0 (x3 - x3 / (30 : Int32) * (30 : Int32)).toNatClampNeg))).trans rfl) (xe_oI dA (xB s0) σ 28 0 (((240 : Int32) * v) + x3).toNatClampNeg ((σ.1 28 0 (((240 : Int32) * v) + x3).toNatClampNeg) + (σ.1 18 0 (x3 - x3 / (30 : Int32) * (30 : Int32)).toNatClampNeg))) d_MO_replace_113 (fun H locs hX hS => ?_)
            refine lv_aload_n hx hb d_MO_replace_114 rfl (lv_at hl 2 rfl) ?_
            refine xw_get (C := R_MO) (T := F_MO) (N := 20) (r := 15) (i := 0) hx hb hts hi_MO hown hK hX (by decide) rfl rfl 5 (by decide) (hts _ w_600) rfl rfl d_MO_replace_115 ?_
            refine lv_iload hx hb d_MO_replace_118 (lv_at hl 1 rfl) ?_
            refine lv_dup2_11 hx hb d_MO_replace_120 rfl rfl ?_
            refine xw_iald (r := 18) (i := 0) hx hb hK hX (by decide) 0 rfl rfl (j := (x3 - x3 / (30 : Int32) * (30 : Int32))) (o_rem hkx) d_MO_replace_121 ?_
            refine lv_iload hx hb d_MO_replace_122 (lv_at hl 0 rfl) ?_
            refine lv_isub hx hb d_MO_replace_124 ?_
            refine xw_iast (r := 18) (i := 0) (ent' := XE dA (xB s0) (xuI (xuI σ 28 0 (((240 : Int32) * v) + x3).toNatClampNeg ((σ.1 28 0 (((240 : Int32) * v) + x3).toNatClampNeg) + (σ.1 18 0 (x3 - x3 / (30 : Int32) * (30 : Int32)).toNatClampNeg))) 18 0 (x3 - x3 / (30 : Int32) * (30 : Int32)).toNatClampNeg (((xuI σ 28 0 (((240 : Int32) * v) + x3).toNatClampNeg ((σ.1 28 0 (((240 : Int32) * v) + x3).toNatClampNeg) + (σ.1 18 0 (x3 - x3 / (30 : Int32) * (30 : Int32)).toNatClampNeg))).1 18 0 (x3 - x3 / (30 : Int32) * (30 : Int32)).toNatClampNeg) - (σ.1 18 0 (x3 - x3 / (30 : Int32) * (30 : Int32)).toNatClampNeg)))) hx hb hK xInj hX hS (xA_in _ _ _) (by decide) 0 rfl rfl (j := (x3 - x3 / (30 : Int32) * (30 : Int32))) (o_rem hkx) ((xe_uI dA (xB s0) (xuI σ 28 0 (((240 : Int32) * v) + x3).toNatClampNeg ((σ.1 28 0 (((240 : Int32) * v) + x3).toNatClampNeg) + (σ.1 18 0 (x3 - x3 / (30 : Int32) * (30 : Int32)).toNatClampNeg))) 18 0 (x3 - x3 / (30 : Int32) * (30 : Int32)).toNatClampNeg (((xuI σ 28 0 (((240 : Int32) * v) + x3).toNatClampNeg ((σ.1 28 0 (((240 : Int32) * v) + x3).toNatClampNeg) + (σ.1 18 0 (x3 - x3 / (30 : Int32) * (30 : Int32)).toNatClampNeg))).1 18 0 (x3 - x3 / (30 : Int32) * (30 : Int32)).toNatClampNeg) - (σ.1 18 0 (x3 - x3 / (30 : Int32) * (30 : Int32)).toNatClampNeg))).trans rfl) (xe_oI dA (xB s0) (xuI σ 28 0 (((240 : Int32) * v) + x3).toNatClampNeg ((σ.1 28 0 (((240 : Int32) * v) + x3).toNatClampNeg) + (σ.1 18 0 (x3 - x3 / (30 : Int32) * (30 : Int32)).toNatClampNeg))) 18 0 (x3 - x3 / (30 : Int32) * (30 : Int32)).toNatClampNeg (((xuI σ 28 0 (((240 : Int32) * v) + x3).toNatClampNeg ((σ.1 28 0 (((240 : Int32) * v) + x3).toNatClampNeg) + (σ.1 18 0 (x3 - x3 / (30 : Int32) * (30 : Int32)).toNatClampNeg))).1 18 0 (x3 - x3 / (30 : Int32) * (30 : Int32)).toNatClampNeg) - (σ.1 18 0 (x3 - x3 / (30 : Int32) * (30 : Int32)).toNatClampNeg))) d_MO_replace_125 (fun H locs hX hS => ?_)
            refine lv_iload_n hx hb d_MO_replace_126 rfl (lv_at hl 4 rfl) ?_
            refine lv_iload hx hb d_MO_replace_127 (lv_at hl 0 rfl) ?_
            refine lv_iadd hx hb d_MO_replace_129 ?_
            refine lv_istore_n (lv' := [(2, .int (x2 + (σ.1 18 0 (x3 - x3 / (30 : Int32) * (30 : Int32)).toNatClampNeg))), (4, .int (σ.1 18 0 (x3 - x3 / (30 : Int32) * (30 : Int32)).toNatClampNeg)), (5, .int (x3 - x3 / (30 : Int32) * (30 : Int32))), (0, .ref (xB s0 + XA 15 0)), (1, .int v), (3, .int x3)]) hx hb d_MO_replace_130 rfl hl (by decide) rfl (fun ls hl => ?_)
            refine lv_iinc (v := (x3 + 1)) (lv' := [(3, .int (x3 + 1)), (2, .int (x2 + (σ.1 18 0 (x3 - x3 / (30 : Int32) * (30 : Int32)).toNatClampNeg))), (4, .int (σ.1 18 0 (x3 - x3 / (30 : Int32) * (30 : Int32)).toNatClampNeg)), (5, .int (x3 - x3 / (30 : Int32) * (30 : Int32))), (0, .ref (xB s0 + XA 15 0)), (1, .int v)]) hx hb d_MO_replace_131 hl (k := 5) rfl rfl (by decide) rfl (fun ls hl => ?_)
            refine lv_goto (tgt := 29) hx hb d_MO_replace_134 (by decide) ?_
            exact ih (xuI (xuI σ 28 0 (((240 : Int32) * v) + x3).toNatClampNeg ((σ.1 28 0 (((240 : Int32) * v) + x3).toNatClampNeg) + (σ.1 18 0 (x3 - x3 / (30 : Int32) * (30 : Int32)).toNatClampNeg))) 18 0 (x3 - x3 / (30 : Int32) * (30 : Int32)).toNatClampNeg (((xuI σ 28 0 (((240 : Int32) * v) + x3).toNatClampNeg ((σ.1 28 0 (((240 : Int32) * v) + x3).toNatClampNeg) + (σ.1 18 0 (x3 - x3 / (30 : Int32) * (30 : Int32)).toNatClampNeg))).1 18 0 (x3 - x3 / (30 : Int32) * (30 : Int32)).toNatClampNeg) - (σ.1 18 0 (x3 - x3 / (30 : Int32) * (30 : Int32)).toNatClampNeg))) v (x2 + (σ.1 18 0 (x3 - x3 / (30 : Int32) * (30 : Int32)).toNatClampNeg)) (x3 + 1) (k + 1) (by rw [e_x3]; exact nI_1 k) (by omega) (by omega)  hok hv hX hS ls (lv_sub hl [4, 5, 1, 0] rfl) res hR
      · rw [if_neg c59] at hR
        refine lv_iload hx hb d_MO_replace_62 (lv_at hl 1 rfl) ?_
        refine lv_goto (tgt := 74) hx hb d_MO_replace_64 (by decide) ?_
        refine lv_istore (lv' := [(4, .int (S_MO_missingOf σ v x3)), (5, .int (x3 - x3 / (30 : Int32) * (30 : Int32))), (0, .ref (xB s0 + XA 15 0)), (1, .int v), (2, .int x2), (3, .int x3)]) hx hb d_MO_replace_74 hl (by decide) rfl (fun ls hl => ?_)
        refine lv_iload hx hb d_MO_replace_76 (lv_at hl 0 rfl) ?_
        refine lv_if_le (tgt := 131) hx hb d_MO_replace_78 (by decide) (fun c78 => ?_) (fun c78 => ?_)
        · rw [if_pos c78] at hR
          refine lv_iinc (v := (x3 + 1)) (lv' := [(3, .int (x3 + 1)), (4, .int (S_MO_missingOf σ v x3)), (5, .int (x3 - x3 / (30 : Int32) * (30 : Int32))), (0, .ref (xB s0 + XA 15 0)), (1, .int v), (2, .int x2)]) hx hb d_MO_replace_131 hl (k := 5) rfl rfl (by decide) rfl (fun ls hl => ?_)
          refine lv_goto (tgt := 29) hx hb d_MO_replace_134 (by decide) ?_
          exact ih σ v x2 (x3 + 1) (k + 1) (by rw [e_x3]; exact nI_1 k) (by omega) (by omega)  hok hv hX hS ls (lv_sub hl [3, 4, 5, 0] rfl) res hR
        · rw [if_neg c78] at hR
          refine lv_aload_n hx hb d_MO_replace_81 rfl (lv_at hl 2 rfl) ?_
          refine lv_iload_n hx hb d_MO_replace_82 rfl (lv_at hl 3 rfl) ?_
          refine lv_iload_n hx hb d_MO_replace_83 rfl (lv_at hl 5 rfl) ?_
          refine lv_bipush (v := 30) hx hb d_MO_replace_84 (by decide) ?_
          refine lv_idiv hx hb d_MO_replace_86 (by decide) ?_
          refine lv_iload hx hb d_MO_replace_87 (lv_at hl 1 rfl) ?_
          refine lv_iload hx hb d_MO_replace_89 (lv_at hl 0 rfl) ?_
          obtain ⟨cB91, hcB91, hoB91, hkB91⟩ := xw_recv (r := 15) (i := 0) hK hX (by decide) rfl rfl
          refine xc_s (rest := []) (x_invV (argsL := [.int v, .int (x3 / (30 : Int32)), .int (x3 - x3 / (30 : Int32) * (30 : Int32)), .int (S_MO_missingOf σ v x3)]) hx hb hown (hts _ w_722) (hts _ w_724) (hts _ w_25) (x_code (hts _ w_725)) ⟨by decide, by decide⟩ hcB91 hoB91 hkB91 rfl rfl rfl d_MO_replace_91) (c_MO_isTooMuch h0 σ v (x3 / (30 : Int32)) (x3 - x3 / (30 : Int32) * (30 : Int32)) (S_MO_missingOf σ v x3) hv (o_div hkx) (o_rem hkx)) (xs_cw h0 hW0 m_725) (hts _ w_38) ⟨rfl, rfl, Nat.le_of_ble_eq_true rfl, Nat.le_of_ble_eq_true rfl⟩ (hl.1.trans hml.symm) (by rw [hb]; exact d_MO_replace_91) (Nat.le_of_ble_eq_true rfl) ⟨Nat.le_of_ble_eq_true rfl, Nat.le_of_ble_eq_true rfl⟩ hX hW0 hS (fun v91 σ91 H locs hM91 hX hS => ?_) (fun E x H1 locs1 hM => by cases hM)
          obtain ⟨ev91, es91⟩ := x_inl hM91
          rw [es91, tm_same] at hX
          subst ev91
          refine lv_if_ne (tgt := 131) hx hb d_MO_replace_94 (by decide) (fun c94 => ?_) (fun c94 => ?_)
          · rw [if_neg c94] at hR
            refine lv_iinc (v := (x3 + 1)) (lv' := [(3, .int (x3 + 1)), (4, .int (S_MO_missingOf σ v x3)), (5, .int (x3 - x3 / (30 : Int32) * (30 : Int32))), (0, .ref (xB s0 + XA 15 0)), (1, .int v), (2, .int x2)]) hx hb d_MO_replace_131 hl (k := 5) rfl rfl (by decide) rfl (fun ls hl => ?_)
            refine lv_goto (tgt := 29) hx hb d_MO_replace_134 (by decide) ?_
            exact ih σ v x2 (x3 + 1) (k + 1) (by rw [e_x3]; exact nI_1 k) (by omega) (by omega)  hok hv hX hS ls (lv_sub hl [3, 4, 5, 0] rfl) res hR
          · rw [if_pos c94] at hR
            refine lv_aload_n hx hb d_MO_replace_97 rfl (lv_at hl 2 rfl) ?_
            refine xw_get (C := R_MO) (T := F_MO) (N := 20) (r := 15) (i := 0) hx hb hts hi_MO hown hK hX (by decide) rfl rfl 16 (by decide) (hts _ w_611) rfl rfl d_MO_replace_98 ?_
            refine lv_sipush (v := 240) hx hb d_MO_replace_101 (by decide) ?_
            refine lv_iload_n hx hb d_MO_replace_104 rfl (lv_at hl 3 rfl) ?_
            refine lv_imul hx hb d_MO_replace_105 ?_
            refine lv_iload_n hx hb d_MO_replace_106 rfl (lv_at hl 5 rfl) ?_
            refine lv_iadd hx hb d_MO_replace_107 ?_
            refine lv_dup2_11 hx hb d_MO_replace_108 rfl rfl ?_
            refine xw_iald (r := 28) (i := 0) hx hb hK hX (by decide) 0 rfl rfl (j := (((240 : Int32) * v) + x3)) (o_c2 hv hkx) d_MO_replace_109 ?_
            refine lv_iload hx hb d_MO_replace_110 (lv_at hl 0 rfl) ?_
            refine lv_iadd hx hb d_MO_replace_112 ?_
            refine xw_iast (r := 28) (i := 0) (ent' := XE dA (xB s0) (xuI σ 28 0 (((240 : Int32) * v) + x3).toNatClampNeg ((σ.1 28 0 (((240 : Int32) * v) + x3).toNatClampNeg) + (S_MO_missingOf σ v x3)))) hx hb hK xInj hX hS (xA_in _ _ _) (by decide) 0 rfl rfl (j := (((240 : Int32) * v) + x3)) (o_c2 hv hkx) ((xe_uI dA (xB s0) σ 28 0 (((240 : Int32) * v) + x3).toNatClampNeg ((σ.1 28 0 (((240 : Int32) * v) + x3).toNatClampNeg) + (S_MO_missingOf σ v x3))).trans rfl) (xe_oI dA (xB s0) σ 28 0 (((240 : Int32) * v) + x3).toNatClampNeg ((σ.1 28 0 (((240 : Int32) * v) + x3).toNatClampNeg) + (S_MO_missingOf σ v x3))) d_MO_replace_113 (fun H locs hX hS => ?_)
            refine lv_aload_n hx hb d_MO_replace_114 rfl (lv_at hl 2 rfl) ?_
            refine xw_get (C := R_MO) (T := F_MO) (N := 20) (r := 15) (i := 0) hx hb hts hi_MO hown hK hX (by decide) rfl rfl 5 (by decide) (hts _ w_600) rfl rfl d_MO_replace_115 ?_
            refine lv_iload hx hb d_MO_replace_118 (lv_at hl 1 rfl) ?_
            refine lv_dup2_11 hx hb d_MO_replace_120 rfl rfl ?_
            refine xw_iald (r := 18) (i := 0) hx hb hK hX (by decide) 0 rfl rfl (j := (x3 - x3 / (30 : Int32) * (30 : Int32))) (o_rem hkx) d_MO_replace_121 ?_
            refine lv_iload hx hb d_MO_replace_122 (lv_at hl 0 rfl) ?_
            refine lv_isub hx hb d_MO_replace_124 ?_
            refine xw_iast (r := 18) (i := 0) (ent' := XE dA (xB s0) (xuI (xuI σ 28 0 (((240 : Int32) * v) + x3).toNatClampNeg ((σ.1 28 0 (((240 : Int32) * v) + x3).toNatClampNeg) + (S_MO_missingOf σ v x3))) 18 0 (x3 - x3 / (30 : Int32) * (30 : Int32)).toNatClampNeg (((xuI σ 28 0 (((240 : Int32) * v) + x3).toNatClampNeg ((σ.1 28 0 (((240 : Int32) * v) + x3).toNatClampNeg) + (S_MO_missingOf σ v x3))).1 18 0 (x3 - x3 / (30 : Int32) * (30 : Int32)).toNatClampNeg) - (S_MO_missingOf σ v x3)))) hx hb hK xInj hX hS (xA_in _ _ _) (by decide) 0 rfl rfl (j := (x3 - x3 / (30 : Int32) * (30 : Int32))) (o_rem hkx) ((xe_uI dA (xB s0) (xuI σ 28 0 (((240 : Int32) * v) + x3).toNatClampNeg ((σ.1 28 0 (((240 : Int32) * v) + x3).toNatClampNeg) + (S_MO_missingOf σ v x3))) 18 0 (x3 - x3 / (30 : Int32) * (30 : Int32)).toNatClampNeg (((xuI σ 28 0 (((240 : Int32) * v) + x3).toNatClampNeg ((σ.1 28 0 (((240 : Int32) * v) + x3).toNatClampNeg) + (S_MO_missingOf σ v x3))).1 18 0 (x3 - x3 / (30 : Int32) * (30 : Int32)).toNatClampNeg) - (S_MO_missingOf σ v x3))).trans rfl) (xe_oI dA (xB s0) (xuI σ 28 0 (((240 : Int32) * v) + x3).toNatClampNeg ((σ.1 28 0 (((240 : Int32) * v) + x3).toNatClampNeg) + (S_MO_missingOf σ v x3))) 18 0 (x3 - x3 / (30 : Int32) * (30 : Int32)).toNatClampNeg (((xuI σ 28 0 (((240 : Int32) * v) + x3).toNatClampNeg ((σ.1 28 0 (((240 : Int32) * v) + x3).toNatClampNeg) + (S_MO_missingOf σ v x3))).1 18 0 (x3 - x3 / (30 : Int32) * (30 : Int32)).toNatClampNeg) - (S_MO_missingOf σ v x3))) d_MO_replace_125 (fun H locs hX hS => ?_)
            refine lv_iload_n hx hb d_MO_replace_126 rfl (lv_at hl 4 rfl) ?_
            refine lv_iload hx hb d_MO_replace_127 (lv_at hl 0 rfl) ?_
            refine lv_iadd hx hb d_MO_replace_129 ?_
            refine lv_istore_n (lv' := [(2, .int (x2 + (S_MO_missingOf σ v x3))), (4, .int (S_MO_missingOf σ v x3)), (5, .int (x3 - x3 / (30 : Int32) * (30 : Int32))), (0, .ref (xB s0 + XA 15 0)), (1, .int v), (3, .int x3)]) hx hb d_MO_replace_130 rfl hl (by decide) rfl (fun ls hl => ?_)
            refine lv_iinc (v := (x3 + 1)) (lv' := [(3, .int (x3 + 1)), (2, .int (x2 + (S_MO_missingOf σ v x3))), (4, .int (S_MO_missingOf σ v x3)), (5, .int (x3 - x3 / (30 : Int32) * (30 : Int32))), (0, .ref (xB s0 + XA 15 0)), (1, .int v)]) hx hb d_MO_replace_131 hl (k := 5) rfl rfl (by decide) rfl (fun ls hl => ?_)
            refine lv_goto (tgt := 29) hx hb d_MO_replace_134 (by decide) ?_
            exact ih (xuI (xuI σ 28 0 (((240 : Int32) * v) + x3).toNatClampNeg ((σ.1 28 0 (((240 : Int32) * v) + x3).toNatClampNeg) + (S_MO_missingOf σ v x3))) 18 0 (x3 - x3 / (30 : Int32) * (30 : Int32)).toNatClampNeg (((xuI σ 28 0 (((240 : Int32) * v) + x3).toNatClampNeg ((σ.1 28 0 (((240 : Int32) * v) + x3).toNatClampNeg) + (S_MO_missingOf σ v x3))).1 18 0 (x3 - x3 / (30 : Int32) * (30 : Int32)).toNatClampNeg) - (S_MO_missingOf σ v x3))) v (x2 + (S_MO_missingOf σ v x3)) (x3 + 1) (k + 1) (by rw [e_x3]; exact nI_1 k) (by omega) (by omega)  hok hv hX hS ls (lv_sub hl [4, 5, 1, 0] rfl) res hR
set_option maxHeartbeats 4000000 in
set_option maxRecDepth 100000 in
theorem c_MO_replace {l : Launch} {s0 : State} {A0 : Array Value} {D : va_G} {dA : Nat → ClassId} (h0 : XS0 l s0 A0 D dA) (σ : XS) (v : Int32) (hok : MOk σ) : XMet l y_MO_replace [cw_MO_replace] rm_MO_replace (XP D dA s0 σ [.ref (xB s0 + XA 15 0), .int v]) (XQs D dA s0 xv_i (.inl (S_MO_replace σ v))) 0 0 (xAm s0) := by
  refine XMet.ofW (cc := b_MO_replace) (maxL := 6) (ret := (some .int)) (by decide) rfl ?_
  intro p e s m args below meth c s₁ Bd hml hvA
  obtain ⟨rfl, hX, hO⟩ := hvA
  have hx := Bd.exec
  have hb := Bd.bytes
  have hr := Bd.returns
  have hown : s.vm.findClass "LoadChecksModel" = some m.cls := findClass_of_methodNamed Bd.named
  have hlocks := Bd.notSynchronized
  have hnt : c.exceptionTable.isEmpty = true := Bd.noHandlers (atoms_spec (ws := [cw_MO_replace]) Bd.pre _ List.mem_cons_self)
  have hW0 := hO.1
  have hts := xs_w (args := ([.ref (xB s0 + XA 15 0), .int v] : List Value).toArray) h0 hW0
  have hK := xs_K h0 hW0
  have hS := xo_S0 hO
  have hl := lv_entry ([.ref (xB s0 + XA 15 0), .int v]) (n := 6) (Nat.le_of_ble_eq_true rfl)
  rw [lg_entry_eq]
  generalize (lg_sl ([.ref (xB s0 + XA 15 0), .int v]) ++ List.replicate (6 - (lg_sl ([.ref (xB s0 + XA 15 0), .int v])).length) Slot.unset).toArray = ls at hl ⊢
  have hl : lv_has ls 6 [(0, .ref (xB s0 + XA 15 0)), (1, .int v)] := hl
  generalize hR : S_MO_replace σ v = res
  unfold S_MO_replace at hR
  refine lv_aload_n hx hb d_MO_replace_0 rfl (lv_at hl 0 rfl) ?_
  refine lv_aload_n hx hb d_MO_replace_1 rfl (lv_at hl 0 rfl) ?_
  refine lv_iload_n hx hb d_MO_replace_2 rfl (lv_at hl 1 rfl) ?_
  obtain ⟨cB3, hcB3, hoB3, hkB3⟩ := xw_recv (r := 15) (i := 0) hK hX (by decide) rfl rfl
  refine xc_f (rest := [.ref (xB s0 + XA 15 0)]) (x_invV (argsL := [.int v]) hx hb hown (hts _ w_679) (hts _ w_681) (hts _ w_21) (x_code (hts _ w_682)) ⟨by decide, by decide⟩ hcB3 hoB3 hkB3 rfl rfl rfl d_MO_replace_3) (c_MO_isVehicle h0 σ v) (xs_cw h0 hW0 m_682) (hts _ w_38) ⟨rfl, rfl, Nat.le_of_ble_eq_true rfl, Nat.le_of_ble_eq_true rfl⟩ (hl.1.trans hml.symm) (by rw [hb]; exact d_MO_replace_3) (Nat.le_of_ble_eq_true rfl) ⟨Nat.le_of_ble_eq_true rfl, Nat.le_of_ble_eq_true rfl⟩ hX ⟨hW0, xo_S hS⟩ ?_
  refine lv_if_ne (tgt := 13) hx hb d_MO_replace_6 (by decide) (fun c6 => ?_) (fun c6 => ?_)
  · rw [if_neg c6] at hR
    have hv := m_veh hok c6
    refine lv_iconst (v := 0) hx hb d_MO_replace_13 (by decide) ?_
    refine lv_iconst (v := 0) hx hb d_MO_replace_14 (by decide) ?_
    refine lv_iconst (v := 0) hx hb d_MO_replace_15 (by decide) ?_
    refine lv_iconst (v := 0) hx hb d_MO_replace_16 (by decide) ?_
    obtain ⟨cB17, hcB17, hoB17, hkB17⟩ := xw_recv (r := 15) (i := 0) hK hX (by decide) rfl rfl
    refine xc_s (rest := []) (x_invV (argsL := [.int (0 : Int32), .int (0 : Int32), .int (0 : Int32), .int (0 : Int32)]) hx hb hown (hts _ w_671) (hts _ w_673) (hts _ w_20) (x_code (hts _ w_674)) ⟨by decide, by decide⟩ hcB17 hoB17 hkB17 rfl rfl rfl d_MO_replace_17) (c_MO_throwing h0 σ (0 : Int32) (0 : Int32) (0 : Int32) (0 : Int32)) (xs_cw h0 hW0 m_674) (hts _ w_38) ⟨rfl, rfl, Nat.le_of_ble_eq_true rfl, Nat.le_of_ble_eq_true rfl⟩ (hl.1.trans hml.symm) (by rw [hb]; exact d_MO_replace_17) (Nat.le_of_ble_eq_true rfl) ⟨Nat.le_of_ble_eq_true rfl, Nat.le_of_ble_eq_true rfl⟩ hX hW0 hS (fun v17 σ17 H locs hM17 hX hS => ?_) (fun E x H1 locs1 hM => by cases hM)
    obtain ⟨ev17, es17⟩ := x_inl hM17
    subst es17
    subst ev17
    refine lv_if_eq (tgt := 25) hx hb d_MO_replace_20 (by decide) (fun c20 => ?_) (fun c20 => ?_)
    · refine lv_iconst (v := 0) hx hb d_MO_replace_25 (by decide) ?_
      refine lv_istore_n (lv' := [(2, .int (0 : Int32)), (0, .ref (xB s0 + XA 15 0)), (1, .int v)]) hx hb d_MO_replace_26 rfl hl (by decide) rfl (fun ls hl => ?_)
      refine lv_iconst (v := 0) hx hb d_MO_replace_27 (by decide) ?_
      refine lv_istore_n (lv' := [(3, .int (0 : Int32)), (2, .int (0 : Int32)), (0, .ref (xB s0 + XA 15 0)), (1, .int v)]) hx hb d_MO_replace_28 rfl hl (by decide) rfl (fun ls hl => ?_)
      exact l_MO_replace h0 hx hb hr hml hown hlocks hnt hO 241 ((S_MO_throwing σ (0 : Int32) (0 : Int32) (0 : Int32) (0 : Int32)).2) v (0 : Int32) (0 : Int32) 0 nI_0.symm rfl (by decide)  hok hv hX hS ls (lv_sub hl [2, 3, 1, 0] rfl) res hR
    · exact absurd thr_z c20
  · rw [if_pos c6] at hR
    refine lv_iconst (v := 1) hx hb d_MO_replace_9 (by decide) ?_
    refine lv_goto (tgt := 14) hx hb d_MO_replace_10 (by decide) ?_
    refine lv_iconst (v := 0) hx hb d_MO_replace_14 (by decide) ?_
    refine lv_iconst (v := 0) hx hb d_MO_replace_15 (by decide) ?_
    refine lv_iconst (v := 0) hx hb d_MO_replace_16 (by decide) ?_
    obtain ⟨cB17, hcB17, hoB17, hkB17⟩ := xw_recv (r := 15) (i := 0) hK hX (by decide) rfl rfl
    refine xc_s (rest := []) (x_invV (argsL := [.int (1 : Int32), .int (0 : Int32), .int (0 : Int32), .int (0 : Int32)]) hx hb hown (hts _ w_671) (hts _ w_673) (hts _ w_20) (x_code (hts _ w_674)) ⟨by decide, by decide⟩ hcB17 hoB17 hkB17 rfl rfl rfl d_MO_replace_17) (c_MO_throwing h0 σ (1 : Int32) (0 : Int32) (0 : Int32) (0 : Int32)) (xs_cw h0 hW0 m_674) (hts _ w_38) ⟨rfl, rfl, Nat.le_of_ble_eq_true rfl, Nat.le_of_ble_eq_true rfl⟩ (hl.1.trans hml.symm) (by rw [hb]; exact d_MO_replace_17) (Nat.le_of_ble_eq_true rfl) ⟨Nat.le_of_ble_eq_true rfl, Nat.le_of_ble_eq_true rfl⟩ hX hW0 hS (fun v17 σ17 H locs hM17 hX hS => ?_) (fun E x H1 locs1 hM => by cases hM)
    obtain ⟨ev17, es17⟩ := x_inl hM17
    subst es17
    subst ev17
    refine lv_if_eq (tgt := 25) hx hb d_MO_replace_20 (by decide) (fun c20 => ?_) (fun c20 => ?_)
    · exact absurd c20 (thr_n1 (by decide))
    · refine lv_iconst (v := 0) hx hb d_MO_replace_23 (by decide) ?_
      subst hR
      refine W.widen (k := 0) (n := 0) (by decide) (by decide) ?_; exact xs_i hx hb hr hlocks hX hS d_MO_replace_24

abbrev rm_MO_swap : Room := { frames := 4, cells := 0, slots := 0, locals := 97 }
def S_MO_swap (σ : XS) (v : Int32) (u : Int32) (cu : Int32) (it : Int32) (n : Int32) : Unit × XS := (if (S_MO_isThing σ v cu it) = 0 then (if (S_MO_in σ n (1 : Int32) (99 : Int32)) = 0 then ((), (S_MO_throwing σ (1 : Int32) (1 : Int32) (0 : Int32) (0 : Int32)).2) else ((), (S_MO_throwing σ (1 : Int32) (0 : Int32) (0 : Int32) (0 : Int32)).2)) else (if (S_MO_isVehicle σ u) = 0 then (if (S_MO_in σ n (1 : Int32) (99 : Int32)) = 0 then ((), (S_MO_throwing σ (1 : Int32) (1 : Int32) (0 : Int32) (0 : Int32)).2) else ((), (S_MO_throwing σ (1 : Int32) (0 : Int32) (0 : Int32) (0 : Int32)).2)) else (if u = v then (if (S_MO_in σ n (1 : Int32) (99 : Int32)) = 0 then ((), (S_MO_throwing σ (1 : Int32) (1 : Int32) (0 : Int32) (0 : Int32)).2) else ((), (S_MO_throwing σ (1 : Int32) (0 : Int32) (0 : Int32) (0 : Int32)).2)) else (if (S_MO_in σ n (1 : Int32) (99 : Int32)) = 0 then ((), (S_MO_throwing σ (0 : Int32) (1 : Int32) (0 : Int32) (0 : Int32)).2) else (if (σ.1 28 0 ((((240 : Int32) * v) + ((30 : Int32) * cu)) + it).toNatClampNeg) < n then (if ((σ.1 28 0 ((((240 : Int32) * u) + ((30 : Int32) * cu)) + it).toNatClampNeg) + n) ≤ (99 : Int32) then ((), (S_MO_throwing σ (0 : Int32) (0 : Int32) (1 : Int32) (0 : Int32)).2) else ((), (S_MO_throwing σ (0 : Int32) (0 : Int32) (1 : Int32) (1 : Int32)).2)) else (if (S_MO_isTooMuch σ u cu it n).1 = 0 then (if ((σ.1 28 0 ((((240 : Int32) * u) + ((30 : Int32) * cu)) + it).toNatClampNeg) + n) ≤ (99 : Int32) then ((), (S_MO_tell ((S_MO_tell (xuI (xuI (S_MO_throwing σ (0 : Int32) (0 : Int32) (0 : Int32) (0 : Int32)).2 28 0 ((((240 : Int32) * v) + ((30 : Int32) * cu)) + it).toNatClampNeg ((((S_MO_throwing σ (0 : Int32) (0 : Int32) (0 : Int32) (0 : Int32)).2).1 28 0 ((((240 : Int32) * v) + ((30 : Int32) * cu)) + it).toNatClampNeg) - n)) 28 0 ((((240 : Int32) * u) + ((30 : Int32) * cu)) + it).toNatClampNeg (((xuI (S_MO_throwing σ (0 : Int32) (0 : Int32) (0 : Int32) (0 : Int32)).2 28 0 ((((240 : Int32) * v) + ((30 : Int32) * cu)) + it).toNatClampNeg ((((S_MO_throwing σ (0 : Int32) (0 : Int32) (0 : Int32) (0 : Int32)).2).1 28 0 ((((240 : Int32) * v) + ((30 : Int32) * cu)) + it).toNatClampNeg) - n)).1 28 0 ((((240 : Int32) * u) + ((30 : Int32) * cu)) + it).toNatClampNeg) + n)) v it (-n)).2) u it n).2) else ((), (S_MO_throwing σ (0 : Int32) (0 : Int32) (0 : Int32) (1 : Int32)).2)) else (if ((σ.1 28 0 ((((240 : Int32) * u) + ((30 : Int32) * cu)) + it).toNatClampNeg) + n) ≤ (99 : Int32) then ((), (S_MO_throwing σ (0 : Int32) (0 : Int32) (1 : Int32) (0 : Int32)).2) else ((), (S_MO_throwing σ (0 : Int32) (0 : Int32) (1 : Int32) (1 : Int32)).2))))))))
set_option maxHeartbeats 4000000 in
set_option maxRecDepth 100000 in
theorem c_MO_swap {l : Launch} {s0 : State} {A0 : Array Value} {D : va_G} {dA : Nat → ClassId} (h0 : XS0 l s0 A0 D dA) (σ : XS) (v : Int32) (u : Int32) (cu : Int32) (it : Int32) (n : Int32) (hok : MOk σ) : XMet l y_MO_swap [cw_MO_swap] rm_MO_swap (XP D dA s0 σ [.ref (xB s0 + XA 15 0), .int v, .int u, .int cu, .int it, .int n]) (XQs D dA s0 xv_v (.inl (S_MO_swap σ v u cu it n))) 0 0 (xAm s0) := by
  refine XMet.ofW (cc := b_MO_swap) (maxL := 9) (ret := none) (by decide) rfl ?_
  intro p e s m args below meth c s₁ Bd hml hvA
  obtain ⟨rfl, hX, hO⟩ := hvA
  have hx := Bd.exec
  have hb := Bd.bytes
  have hr := Bd.returns
  have hown : s.vm.findClass "LoadChecksModel" = some m.cls := findClass_of_methodNamed Bd.named
  have hlocks := Bd.notSynchronized
  have hnt : c.exceptionTable.isEmpty = true := Bd.noHandlers (atoms_spec (ws := [cw_MO_swap]) Bd.pre _ List.mem_cons_self)
  have hW0 := hO.1
  have hts := xs_w (args := ([.ref (xB s0 + XA 15 0), .int v, .int u, .int cu, .int it, .int n] : List Value).toArray) h0 hW0
  have hK := xs_K h0 hW0
  have hS := xo_S0 hO
  have hl := lv_entry ([.ref (xB s0 + XA 15 0), .int v, .int u, .int cu, .int it, .int n]) (n := 9) (Nat.le_of_ble_eq_true rfl)
  rw [lg_entry_eq]
  generalize (lg_sl ([.ref (xB s0 + XA 15 0), .int v, .int u, .int cu, .int it, .int n]) ++ List.replicate (9 - (lg_sl ([.ref (xB s0 + XA 15 0), .int v, .int u, .int cu, .int it, .int n])).length) Slot.unset).toArray = ls at hl ⊢
  have hl : lv_has ls 9 [(0, .ref (xB s0 + XA 15 0)), (1, .int v), (2, .int u), (3, .int cu), (4, .int it), (5, .int n)] := hl
  generalize hR : S_MO_swap σ v u cu it n = res
  unfold S_MO_swap at hR
  refine lv_aload_n hx hb d_MO_swap_0 rfl (lv_at hl 0 rfl) ?_
  refine lv_iload_n hx hb d_MO_swap_1 rfl (lv_at hl 1 rfl) ?_
  refine lv_iload_n hx hb d_MO_swap_2 rfl (lv_at hl 3 rfl) ?_
  refine lv_iload hx hb d_MO_swap_3 (lv_at hl 4 rfl) ?_
  obtain ⟨cB5, hcB5, hoB5, hkB5⟩ := xw_recv (r := 15) (i := 0) hK hX (by decide) rfl rfl
  refine xc_f (rest := []) (x_invV (argsL := [.int v, .int cu, .int it]) hx hb hown (hts _ w_718) (hts _ w_720) (hts _ w_24) (x_code (hts _ w_721)) ⟨by decide, by decide⟩ hcB5 hoB5 hkB5 rfl rfl rfl d_MO_swap_5) (c_MO_isThing h0 σ v cu it) (xs_cw h0 hW0 m_721) (hts _ w_38) ⟨rfl, rfl, Nat.le_of_ble_eq_true rfl, Nat.le_of_ble_eq_true rfl⟩ (hl.1.trans hml.symm) (by rw [hb]; exact d_MO_swap_5) (Nat.le_of_ble_eq_true rfl) ⟨Nat.le_of_ble_eq_true rfl, Nat.le_of_ble_eq_true rfl⟩ hX ⟨hW0, xo_S hS⟩ ?_
  refine lv_if_eq (tgt := 24) hx hb d_MO_swap_8 (by decide) (fun c8 => ?_) (fun c8 => ?_)
  · rw [if_pos c8] at hR
    refine lv_iconst (v := 1) hx hb d_MO_swap_24 (by decide) ?_
    refine lv_goto (tgt := 29) hx hb d_MO_swap_25 (by decide) ?_
    refine lv_istore (lv' := [(6, .int (1 : Int32)), (0, .ref (xB s0 + XA 15 0)), (1, .int v), (2, .int u), (3, .int cu), (4, .int it), (5, .int n)]) hx hb d_MO_swap_29 hl (by decide) rfl (fun ls hl => ?_)
    refine lv_iload hx hb d_MO_swap_31 (lv_at hl 6 rfl) ?_
    refine lv_iconst (v := 1) hx hb d_MO_swap_33 (by decide) ?_
    refine lv_bipush (v := 99) hx hb d_MO_swap_34 (by decide) ?_
    refine xc_f (rest := []) (x_invS (argsL := [.int n, .int (1 : Int32), .int (99 : Int32)]) hx hb hown (hts _ w_664) (hts _ w_665) (hts _ w_38) (x_code (hts _ w_666)) ⟨by decide, by decide⟩ rfl rfl rfl d_MO_swap_36) (c_MO_in h0 σ n (1 : Int32) (99 : Int32)) (xs_cw h0 hW0 m_666) (hts _ w_38) ⟨rfl, rfl, Nat.le_of_ble_eq_true rfl, Nat.le_of_ble_eq_true rfl⟩ (hl.1.trans hml.symm) (by rw [hb]; exact d_MO_swap_36) (Nat.le_of_ble_eq_true rfl) ⟨Nat.le_of_ble_eq_true rfl, Nat.le_of_ble_eq_true rfl⟩ hX ⟨hW0, xo_S hS⟩ ?_
    refine lv_if_ne (tgt := 46) hx hb d_MO_swap_39 (by decide) (fun c39 => ?_) (fun c39 => ?_)
    · rw [if_neg c39] at hR
      refine lv_iconst (v := 0) hx hb d_MO_swap_46 (by decide) ?_
      refine lv_istore (lv' := [(7, .int (0 : Int32)), (6, .int (1 : Int32)), (0, .ref (xB s0 + XA 15 0)), (1, .int v), (2, .int u), (3, .int cu), (4, .int it), (5, .int n)]) hx hb d_MO_swap_47 hl (by decide) rfl (fun ls hl => ?_)
      refine lv_iload hx hb d_MO_swap_49 (lv_at hl 1 rfl) ?_
      refine lv_if_ne (tgt := 99) hx hb d_MO_swap_51 (by decide) (fun c51 => ?_) (fun c51 => ?_)
      · refine lv_iconst (v := 0) hx hb d_MO_swap_99 (by decide) ?_
        refine lv_istore (lv' := [(8, .int (0 : Int32)), (7, .int (0 : Int32)), (6, .int (1 : Int32)), (0, .ref (xB s0 + XA 15 0)), (1, .int v), (2, .int u), (3, .int cu), (4, .int it), (5, .int n)]) hx hb d_MO_swap_100 hl (by decide) rfl (fun ls hl => ?_)
        refine lv_aload_n hx hb d_MO_swap_102 rfl (lv_at hl 3 rfl) ?_
        refine lv_iload hx hb d_MO_swap_103 (lv_at hl 2 rfl) ?_
        refine lv_iload hx hb d_MO_swap_105 (lv_at hl 1 rfl) ?_
        refine lv_iload hx hb d_MO_swap_107 (lv_at hl 0 rfl) ?_
        refine lv_iload hx hb d_MO_swap_109 (lv_at hl 2 rfl) ?_
        refine lv_if_ne (tgt := 149) hx hb d_MO_swap_111 (by decide) (fun c111 => ?_) (fun c111 => ?_)
        · refine lv_iconst (v := 0) hx hb d_MO_swap_149 (by decide) ?_
          obtain ⟨cB150, hcB150, hoB150, hkB150⟩ := xw_recv (r := 15) (i := 0) hK hX (by decide) rfl rfl
          refine xc_s (rest := []) (x_invV (argsL := [.int (1 : Int32), .int (0 : Int32), .int (0 : Int32), .int (0 : Int32)]) hx hb hown (hts _ w_671) (hts _ w_673) (hts _ w_20) (x_code (hts _ w_674)) ⟨by decide, by decide⟩ hcB150 hoB150 hkB150 rfl rfl rfl d_MO_swap_150) (c_MO_throwing h0 σ (1 : Int32) (0 : Int32) (0 : Int32) (0 : Int32)) (xs_cw h0 hW0 m_674) (hts _ w_38) ⟨rfl, rfl, Nat.le_of_ble_eq_true rfl, Nat.le_of_ble_eq_true rfl⟩ (hl.1.trans hml.symm) (by rw [hb]; exact d_MO_swap_150) (Nat.le_of_ble_eq_true rfl) ⟨Nat.le_of_ble_eq_true rfl, Nat.le_of_ble_eq_true rfl⟩ hX hW0 hS (fun v150 σ150 H locs hM150 hX hS => ?_) (fun E x H1 locs1 hM => by cases hM)
          obtain ⟨ev150, es150⟩ := x_inl hM150
          subst es150
          subst ev150
          refine lv_if_eq (tgt := 157) hx hb d_MO_swap_153 (by decide) (fun c153 => ?_) (fun c153 => ?_)
          · exact absurd c153 (thr_n1 (by decide))
          · subst hR
            refine W.widen (k := 0) (n := 0) (by decide) (by decide) ?_; exact xs_v hx hb hr hlocks hX hS d_MO_swap_156
        · exact absurd c111 (by decide)
      · exact absurd c51 (by decide)
    · rw [if_pos c39] at hR
      refine lv_iconst (v := 1) hx hb d_MO_swap_42 (by decide) ?_
      refine lv_goto (tgt := 47) hx hb d_MO_swap_43 (by decide) ?_
      refine lv_istore (lv' := [(7, .int (1 : Int32)), (6, .int (1 : Int32)), (0, .ref (xB s0 + XA 15 0)), (1, .int v), (2, .int u), (3, .int cu), (4, .int it), (5, .int n)]) hx hb d_MO_swap_47 hl (by decide) rfl (fun ls hl => ?_)
      refine lv_iload hx hb d_MO_swap_49 (lv_at hl 1 rfl) ?_
      refine lv_if_ne (tgt := 99) hx hb d_MO_swap_51 (by decide) (fun c51 => ?_) (fun c51 => ?_)
      · refine lv_iconst (v := 0) hx hb d_MO_swap_99 (by decide) ?_
        refine lv_istore (lv' := [(8, .int (0 : Int32)), (7, .int (1 : Int32)), (6, .int (1 : Int32)), (0, .ref (xB s0 + XA 15 0)), (1, .int v), (2, .int u), (3, .int cu), (4, .int it), (5, .int n)]) hx hb d_MO_swap_100 hl (by decide) rfl (fun ls hl => ?_)
        refine lv_aload_n hx hb d_MO_swap_102 rfl (lv_at hl 3 rfl) ?_
        refine lv_iload hx hb d_MO_swap_103 (lv_at hl 2 rfl) ?_
        refine lv_iload hx hb d_MO_swap_105 (lv_at hl 1 rfl) ?_
        refine lv_iload hx hb d_MO_swap_107 (lv_at hl 0 rfl) ?_
        refine lv_iload hx hb d_MO_swap_109 (lv_at hl 2 rfl) ?_
        refine lv_if_ne (tgt := 149) hx hb d_MO_swap_111 (by decide) (fun c111 => ?_) (fun c111 => ?_)
        · refine lv_iconst (v := 0) hx hb d_MO_swap_149 (by decide) ?_
          obtain ⟨cB150, hcB150, hoB150, hkB150⟩ := xw_recv (r := 15) (i := 0) hK hX (by decide) rfl rfl
          refine xc_s (rest := []) (x_invV (argsL := [.int (1 : Int32), .int (1 : Int32), .int (0 : Int32), .int (0 : Int32)]) hx hb hown (hts _ w_671) (hts _ w_673) (hts _ w_20) (x_code (hts _ w_674)) ⟨by decide, by decide⟩ hcB150 hoB150 hkB150 rfl rfl rfl d_MO_swap_150) (c_MO_throwing h0 σ (1 : Int32) (1 : Int32) (0 : Int32) (0 : Int32)) (xs_cw h0 hW0 m_674) (hts _ w_38) ⟨rfl, rfl, Nat.le_of_ble_eq_true rfl, Nat.le_of_ble_eq_true rfl⟩ (hl.1.trans hml.symm) (by rw [hb]; exact d_MO_swap_150) (Nat.le_of_ble_eq_true rfl) ⟨Nat.le_of_ble_eq_true rfl, Nat.le_of_ble_eq_true rfl⟩ hX hW0 hS (fun v150 σ150 H locs hM150 hX hS => ?_) (fun E x H1 locs1 hM => by cases hM)
          obtain ⟨ev150, es150⟩ := x_inl hM150
          subst es150
          subst ev150
          refine lv_if_eq (tgt := 157) hx hb d_MO_swap_153 (by decide) (fun c153 => ?_) (fun c153 => ?_)
          · exact absurd c153 (thr_n1 (by decide))
          · subst hR
            refine W.widen (k := 0) (n := 0) (by decide) (by decide) ?_; exact xs_v hx hb hr hlocks hX hS d_MO_swap_156
        · exact absurd c111 (by decide)
      · exact absurd c51 (by decide)
  · rw [if_neg c8] at hR
    refine lv_aload_n hx hb d_MO_swap_11 rfl (lv_at hl 0 rfl) ?_
    refine lv_iload_n hx hb d_MO_swap_12 rfl (lv_at hl 2 rfl) ?_
    obtain ⟨cB13, hcB13, hoB13, hkB13⟩ := xw_recv (r := 15) (i := 0) hK hX (by decide) rfl rfl
    refine xc_f (rest := []) (x_invV (argsL := [.int u]) hx hb hown (hts _ w_679) (hts _ w_681) (hts _ w_21) (x_code (hts _ w_682)) ⟨by decide, by decide⟩ hcB13 hoB13 hkB13 rfl rfl rfl d_MO_swap_13) (c_MO_isVehicle h0 σ u) (xs_cw h0 hW0 m_682) (hts _ w_38) ⟨rfl, rfl, Nat.le_of_ble_eq_true rfl, Nat.le_of_ble_eq_true rfl⟩ (hl.1.trans hml.symm) (by rw [hb]; exact d_MO_swap_13) (Nat.le_of_ble_eq_true rfl) ⟨Nat.le_of_ble_eq_true rfl, Nat.le_of_ble_eq_true rfl⟩ hX ⟨hW0, xo_S hS⟩ ?_
    refine lv_if_eq (tgt := 24) hx hb d_MO_swap_16 (by decide) (fun c16 => ?_) (fun c16 => ?_)
    · rw [if_pos c16] at hR
      refine lv_iconst (v := 1) hx hb d_MO_swap_24 (by decide) ?_
      refine lv_goto (tgt := 29) hx hb d_MO_swap_25 (by decide) ?_
      refine lv_istore (lv' := [(6, .int (1 : Int32)), (0, .ref (xB s0 + XA 15 0)), (1, .int v), (2, .int u), (3, .int cu), (4, .int it), (5, .int n)]) hx hb d_MO_swap_29 hl (by decide) rfl (fun ls hl => ?_)
      refine lv_iload hx hb d_MO_swap_31 (lv_at hl 6 rfl) ?_
      refine lv_iconst (v := 1) hx hb d_MO_swap_33 (by decide) ?_
      refine lv_bipush (v := 99) hx hb d_MO_swap_34 (by decide) ?_
      refine xc_f (rest := []) (x_invS (argsL := [.int n, .int (1 : Int32), .int (99 : Int32)]) hx hb hown (hts _ w_664) (hts _ w_665) (hts _ w_38) (x_code (hts _ w_666)) ⟨by decide, by decide⟩ rfl rfl rfl d_MO_swap_36) (c_MO_in h0 σ n (1 : Int32) (99 : Int32)) (xs_cw h0 hW0 m_666) (hts _ w_38) ⟨rfl, rfl, Nat.le_of_ble_eq_true rfl, Nat.le_of_ble_eq_true rfl⟩ (hl.1.trans hml.symm) (by rw [hb]; exact d_MO_swap_36) (Nat.le_of_ble_eq_true rfl) ⟨Nat.le_of_ble_eq_true rfl, Nat.le_of_ble_eq_true rfl⟩ hX ⟨hW0, xo_S hS⟩ ?_
      refine lv_if_ne (tgt := 46) hx hb d_MO_swap_39 (by decide) (fun c39 => ?_) (fun c39 => ?_)
      · rw [if_neg c39] at hR
        refine lv_iconst (v := 0) hx hb d_MO_swap_46 (by decide) ?_
        refine lv_istore (lv' := [(7, .int (0 : Int32)), (6, .int (1 : Int32)), (0, .ref (xB s0 + XA 15 0)), (1, .int v), (2, .int u), (3, .int cu), (4, .int it), (5, .int n)]) hx hb d_MO_swap_47 hl (by decide) rfl (fun ls hl => ?_)
        refine lv_iload hx hb d_MO_swap_49 (lv_at hl 1 rfl) ?_
        refine lv_if_ne (tgt := 99) hx hb d_MO_swap_51 (by decide) (fun c51 => ?_) (fun c51 => ?_)
        · refine lv_iconst (v := 0) hx hb d_MO_swap_99 (by decide) ?_
          refine lv_istore (lv' := [(8, .int (0 : Int32)), (7, .int (0 : Int32)), (6, .int (1 : Int32)), (0, .ref (xB s0 + XA 15 0)), (1, .int v), (2, .int u), (3, .int cu), (4, .int it), (5, .int n)]) hx hb d_MO_swap_100 hl (by decide) rfl (fun ls hl => ?_)
          refine lv_aload_n hx hb d_MO_swap_102 rfl (lv_at hl 3 rfl) ?_
          refine lv_iload hx hb d_MO_swap_103 (lv_at hl 2 rfl) ?_
          refine lv_iload hx hb d_MO_swap_105 (lv_at hl 1 rfl) ?_
          refine lv_iload hx hb d_MO_swap_107 (lv_at hl 0 rfl) ?_
          refine lv_iload hx hb d_MO_swap_109 (lv_at hl 2 rfl) ?_
          refine lv_if_ne (tgt := 149) hx hb d_MO_swap_111 (by decide) (fun c111 => ?_) (fun c111 => ?_)
          · refine lv_iconst (v := 0) hx hb d_MO_swap_149 (by decide) ?_
            obtain ⟨cB150, hcB150, hoB150, hkB150⟩ := xw_recv (r := 15) (i := 0) hK hX (by decide) rfl rfl
            refine xc_s (rest := []) (x_invV (argsL := [.int (1 : Int32), .int (0 : Int32), .int (0 : Int32), .int (0 : Int32)]) hx hb hown (hts _ w_671) (hts _ w_673) (hts _ w_20) (x_code (hts _ w_674)) ⟨by decide, by decide⟩ hcB150 hoB150 hkB150 rfl rfl rfl d_MO_swap_150) (c_MO_throwing h0 σ (1 : Int32) (0 : Int32) (0 : Int32) (0 : Int32)) (xs_cw h0 hW0 m_674) (hts _ w_38) ⟨rfl, rfl, Nat.le_of_ble_eq_true rfl, Nat.le_of_ble_eq_true rfl⟩ (hl.1.trans hml.symm) (by rw [hb]; exact d_MO_swap_150) (Nat.le_of_ble_eq_true rfl) ⟨Nat.le_of_ble_eq_true rfl, Nat.le_of_ble_eq_true rfl⟩ hX hW0 hS (fun v150 σ150 H locs hM150 hX hS => ?_) (fun E x H1 locs1 hM => by cases hM)
            obtain ⟨ev150, es150⟩ := x_inl hM150
            subst es150
            subst ev150
            refine lv_if_eq (tgt := 157) hx hb d_MO_swap_153 (by decide) (fun c153 => ?_) (fun c153 => ?_)
            · exact absurd c153 (thr_n1 (by decide))
            · subst hR
              refine W.widen (k := 0) (n := 0) (by decide) (by decide) ?_; exact xs_v hx hb hr hlocks hX hS d_MO_swap_156
          · exact absurd c111 (by decide)
        · exact absurd c51 (by decide)
      · rw [if_pos c39] at hR
        refine lv_iconst (v := 1) hx hb d_MO_swap_42 (by decide) ?_
        refine lv_goto (tgt := 47) hx hb d_MO_swap_43 (by decide) ?_
        refine lv_istore (lv' := [(7, .int (1 : Int32)), (6, .int (1 : Int32)), (0, .ref (xB s0 + XA 15 0)), (1, .int v), (2, .int u), (3, .int cu), (4, .int it), (5, .int n)]) hx hb d_MO_swap_47 hl (by decide) rfl (fun ls hl => ?_)
        refine lv_iload hx hb d_MO_swap_49 (lv_at hl 1 rfl) ?_
        refine lv_if_ne (tgt := 99) hx hb d_MO_swap_51 (by decide) (fun c51 => ?_) (fun c51 => ?_)
        · refine lv_iconst (v := 0) hx hb d_MO_swap_99 (by decide) ?_
          refine lv_istore (lv' := [(8, .int (0 : Int32)), (7, .int (1 : Int32)), (6, .int (1 : Int32)), (0, .ref (xB s0 + XA 15 0)), (1, .int v), (2, .int u), (3, .int cu), (4, .int it), (5, .int n)]) hx hb d_MO_swap_100 hl (by decide) rfl (fun ls hl => ?_)
          refine lv_aload_n hx hb d_MO_swap_102 rfl (lv_at hl 3 rfl) ?_
          refine lv_iload hx hb d_MO_swap_103 (lv_at hl 2 rfl) ?_
          refine lv_iload hx hb d_MO_swap_105 (lv_at hl 1 rfl) ?_
          refine lv_iload hx hb d_MO_swap_107 (lv_at hl 0 rfl) ?_
          refine lv_iload hx hb d_MO_swap_109 (lv_at hl 2 rfl) ?_
          refine lv_if_ne (tgt := 149) hx hb d_MO_swap_111 (by decide) (fun c111 => ?_) (fun c111 => ?_)
          · refine lv_iconst (v := 0) hx hb d_MO_swap_149 (by decide) ?_
            obtain ⟨cB150, hcB150, hoB150, hkB150⟩ := xw_recv (r := 15) (i := 0) hK hX (by decide) rfl rfl
            refine xc_s (rest := []) (x_invV (argsL := [.int (1 : Int32), .int (1 : Int32), .int (0 : Int32), .int (0 : Int32)]) hx hb hown (hts _ w_671) (hts _ w_673) (hts _ w_20) (x_code (hts _ w_674)) ⟨by decide, by decide⟩ hcB150 hoB150 hkB150 rfl rfl rfl d_MO_swap_150) (c_MO_throwing h0 σ (1 : Int32) (1 : Int32) (0 : Int32) (0 : Int32)) (xs_cw h0 hW0 m_674) (hts _ w_38) ⟨rfl, rfl, Nat.le_of_ble_eq_true rfl, Nat.le_of_ble_eq_true rfl⟩ (hl.1.trans hml.symm) (by rw [hb]; exact d_MO_swap_150) (Nat.le_of_ble_eq_true rfl) ⟨Nat.le_of_ble_eq_true rfl, Nat.le_of_ble_eq_true rfl⟩ hX hW0 hS (fun v150 σ150 H locs hM150 hX hS => ?_) (fun E x H1 locs1 hM => by cases hM)
            obtain ⟨ev150, es150⟩ := x_inl hM150
            subst es150
            subst ev150
            refine lv_if_eq (tgt := 157) hx hb d_MO_swap_153 (by decide) (fun c153 => ?_) (fun c153 => ?_)
            · exact absurd c153 (thr_n1 (by decide))
            · subst hR
              refine W.widen (k := 0) (n := 0) (by decide) (by decide) ?_; exact xs_v hx hb hr hlocks hX hS d_MO_swap_156
          · exact absurd c111 (by decide)
        · exact absurd c51 (by decide)
    · rw [if_neg c16] at hR
      refine lv_iload_n hx hb d_MO_swap_19 rfl (lv_at hl 2 rfl) ?_
      refine lv_iload_n hx hb d_MO_swap_20 rfl (lv_at hl 1 rfl) ?_
      refine lv_icmp_ne (tgt := 28) hx hb d_MO_swap_21 (by decide) (fun c21 => ?_) (fun c21 => ?_)
      · rw [if_neg c21] at hR
        have hv := m_thv hok c8
        have hc := m_thc c8
        have hi := m_thi c8
        have hu := m_veh hok c16
        refine lv_iconst (v := 0) hx hb d_MO_swap_28 (by decide) ?_
        refine lv_istore (lv' := [(6, .int (0 : Int32)), (0, .ref (xB s0 + XA 15 0)), (1, .int v), (2, .int u), (3, .int cu), (4, .int it), (5, .int n)]) hx hb d_MO_swap_29 hl (by decide) rfl (fun ls hl => ?_)
        refine lv_iload hx hb d_MO_swap_31 (lv_at hl 6 rfl) ?_
        refine lv_iconst (v := 1) hx hb d_MO_swap_33 (by decide) ?_
        refine lv_bipush (v := 99) hx hb d_MO_swap_34 (by decide) ?_
        refine xc_f (rest := []) (x_invS (argsL := [.int n, .int (1 : Int32), .int (99 : Int32)]) hx hb hown (hts _ w_664) (hts _ w_665) (hts _ w_38) (x_code (hts _ w_666)) ⟨by decide, by decide⟩ rfl rfl rfl d_MO_swap_36) (c_MO_in h0 σ n (1 : Int32) (99 : Int32)) (xs_cw h0 hW0 m_666) (hts _ w_38) ⟨rfl, rfl, Nat.le_of_ble_eq_true rfl, Nat.le_of_ble_eq_true rfl⟩ (hl.1.trans hml.symm) (by rw [hb]; exact d_MO_swap_36) (Nat.le_of_ble_eq_true rfl) ⟨Nat.le_of_ble_eq_true rfl, Nat.le_of_ble_eq_true rfl⟩ hX ⟨hW0, xo_S hS⟩ ?_
        refine lv_if_ne (tgt := 46) hx hb d_MO_swap_39 (by decide) (fun c39 => ?_) (fun c39 => ?_)
        · rw [if_neg c39] at hR
          refine lv_iconst (v := 0) hx hb d_MO_swap_46 (by decide) ?_
          refine lv_istore (lv' := [(7, .int (0 : Int32)), (6, .int (0 : Int32)), (0, .ref (xB s0 + XA 15 0)), (1, .int v), (2, .int u), (3, .int cu), (4, .int it), (5, .int n)]) hx hb d_MO_swap_47 hl (by decide) rfl (fun ls hl => ?_)
          refine lv_iload hx hb d_MO_swap_49 (lv_at hl 1 rfl) ?_
          refine lv_if_ne (tgt := 99) hx hb d_MO_swap_51 (by decide) (fun c51 => ?_) (fun c51 => ?_)
          · exact absurd (by decide) c51
          · refine lv_iload hx hb d_MO_swap_54 (lv_at hl 0 rfl) ?_
            refine lv_if_ne (tgt := 99) hx hb d_MO_swap_56 (by decide) (fun c56 => ?_) (fun c56 => ?_)
            · exact absurd (by decide) c56
            · refine lv_aload_n hx hb d_MO_swap_59 rfl (lv_at hl 2 rfl) ?_
              refine xw_get (C := R_MO) (T := F_MO) (N := 20) (r := 15) (i := 0) hx hb hts hi_MO hown hK hX (by decide) rfl rfl 16 (by decide) (hts _ w_611) rfl rfl d_MO_swap_60 ?_
              refine lv_sipush (v := 240) hx hb d_MO_swap_63 (by decide) ?_
              refine lv_iload_n hx hb d_MO_swap_66 rfl (lv_at hl 3 rfl) ?_
              refine lv_imul hx hb d_MO_swap_67 ?_
              refine lv_bipush (v := 30) hx hb d_MO_swap_68 (by decide) ?_
              refine lv_iload_n hx hb d_MO_swap_70 rfl (lv_at hl 5 rfl) ?_
              refine lv_imul hx hb d_MO_swap_71 ?_
              refine lv_iadd hx hb d_MO_swap_72 ?_
              refine lv_iload hx hb d_MO_swap_73 (lv_at hl 6 rfl) ?_
              refine lv_iadd hx hb d_MO_swap_75 ?_
              refine xw_iald (r := 28) (i := 0) hx hb hK hX (by decide) 0 rfl rfl (j := ((((240 : Int32) * v) + ((30 : Int32) * cu)) + it)) (o_c3 hv hc hi) d_MO_swap_76 ?_
              refine lv_iload hx hb d_MO_swap_77 (lv_at hl 7 rfl) ?_
              refine lv_icmp_lt (tgt := 95) hx hb d_MO_swap_79 (by decide) (fun c79 => ?_) (fun c79 => ?_)
              · rw [if_pos c79] at hR
                refine lv_iconst (v := 1) hx hb d_MO_swap_95 (by decide) ?_
                refine lv_goto (tgt := 100) hx hb d_MO_swap_96 (by decide) ?_
                refine lv_istore (lv' := [(8, .int (1 : Int32)), (7, .int (0 : Int32)), (6, .int (0 : Int32)), (0, .ref (xB s0 + XA 15 0)), (1, .int v), (2, .int u), (3, .int cu), (4, .int it), (5, .int n)]) hx hb d_MO_swap_100 hl (by decide) rfl (fun ls hl => ?_)
                refine lv_aload_n hx hb d_MO_swap_102 rfl (lv_at hl 3 rfl) ?_
                refine lv_iload hx hb d_MO_swap_103 (lv_at hl 2 rfl) ?_
                refine lv_iload hx hb d_MO_swap_105 (lv_at hl 1 rfl) ?_
                refine lv_iload hx hb d_MO_swap_107 (lv_at hl 0 rfl) ?_
                refine lv_iload hx hb d_MO_swap_109 (lv_at hl 2 rfl) ?_
                refine lv_if_ne (tgt := 149) hx hb d_MO_swap_111 (by decide) (fun c111 => ?_) (fun c111 => ?_)
                · exact absurd (by decide) c111
                · refine lv_iload hx hb d_MO_swap_114 (lv_at hl 1 rfl) ?_
                  refine lv_if_ne (tgt := 149) hx hb d_MO_swap_116 (by decide) (fun c116 => ?_) (fun c116 => ?_)
                  · exact absurd (by decide) c116
                  · refine lv_aload_n hx hb d_MO_swap_119 rfl (lv_at hl 3 rfl) ?_
                    refine xw_get (C := R_MO) (T := F_MO) (N := 20) (r := 15) (i := 0) hx hb hts hi_MO hown hK hX (by decide) rfl rfl 16 (by decide) (hts _ w_611) rfl rfl d_MO_swap_120 ?_
                    refine lv_sipush (v := 240) hx hb d_MO_swap_123 (by decide) ?_
                    refine lv_iload_n hx hb d_MO_swap_126 rfl (lv_at hl 5 rfl) ?_
                    refine lv_imul hx hb d_MO_swap_127 ?_
                    refine lv_bipush (v := 30) hx hb d_MO_swap_128 (by decide) ?_
                    refine lv_iload_n hx hb d_MO_swap_130 rfl (lv_at hl 6 rfl) ?_
                    refine lv_imul hx hb d_MO_swap_131 ?_
                    refine lv_iadd hx hb d_MO_swap_132 ?_
                    refine lv_iload hx hb d_MO_swap_133 (lv_at hl 7 rfl) ?_
                    refine lv_iadd hx hb d_MO_swap_135 ?_
                    refine xw_iald (r := 28) (i := 0) hx hb hK hX (by decide) 0 rfl rfl (j := ((((240 : Int32) * u) + ((30 : Int32) * cu)) + it)) (o_c3 hu hc hi) d_MO_swap_136 ?_
                    refine lv_iload hx hb d_MO_swap_137 (lv_at hl 8 rfl) ?_
                    refine lv_iadd hx hb d_MO_swap_139 ?_
                    refine lv_bipush (v := 99) hx hb d_MO_swap_140 (by decide) ?_
                    refine lv_icmp_le (tgt := 149) hx hb d_MO_swap_142 (by decide) (fun c142 => ?_) (fun c142 => ?_)
                    · rw [if_pos c142] at hR
                      refine lv_iconst (v := 0) hx hb d_MO_swap_149 (by decide) ?_
                      obtain ⟨cB150, hcB150, hoB150, hkB150⟩ := xw_recv (r := 15) (i := 0) hK hX (by decide) rfl rfl
                      refine xc_s (rest := []) (x_invV (argsL := [.int (0 : Int32), .int (0 : Int32), .int (1 : Int32), .int (0 : Int32)]) hx hb hown (hts _ w_671) (hts _ w_673) (hts _ w_20) (x_code (hts _ w_674)) ⟨by decide, by decide⟩ hcB150 hoB150 hkB150 rfl rfl rfl d_MO_swap_150) (c_MO_throwing h0 σ (0 : Int32) (0 : Int32) (1 : Int32) (0 : Int32)) (xs_cw h0 hW0 m_674) (hts _ w_38) ⟨rfl, rfl, Nat.le_of_ble_eq_true rfl, Nat.le_of_ble_eq_true rfl⟩ (hl.1.trans hml.symm) (by rw [hb]; exact d_MO_swap_150) (Nat.le_of_ble_eq_true rfl) ⟨Nat.le_of_ble_eq_true rfl, Nat.le_of_ble_eq_true rfl⟩ hX hW0 hS (fun v150 σ150 H locs hM150 hX hS => ?_) (fun E x H1 locs1 hM => by cases hM)
                      obtain ⟨ev150, es150⟩ := x_inl hM150
                      subst es150
                      subst ev150
                      refine lv_if_eq (tgt := 157) hx hb d_MO_swap_153 (by decide) (fun c153 => ?_) (fun c153 => ?_)
                      · exact absurd c153 (thr_n3 (by decide))
                      · subst hR
                        refine W.widen (k := 0) (n := 0) (by decide) (by decide) ?_; exact xs_v hx hb hr hlocks hX hS d_MO_swap_156
                    · rw [if_neg c142] at hR
                      refine lv_iconst (v := 1) hx hb d_MO_swap_145 (by decide) ?_
                      refine lv_goto (tgt := 150) hx hb d_MO_swap_146 (by decide) ?_
                      obtain ⟨cB150, hcB150, hoB150, hkB150⟩ := xw_recv (r := 15) (i := 0) hK hX (by decide) rfl rfl
                      refine xc_s (rest := []) (x_invV (argsL := [.int (0 : Int32), .int (0 : Int32), .int (1 : Int32), .int (1 : Int32)]) hx hb hown (hts _ w_671) (hts _ w_673) (hts _ w_20) (x_code (hts _ w_674)) ⟨by decide, by decide⟩ hcB150 hoB150 hkB150 rfl rfl rfl d_MO_swap_150) (c_MO_throwing h0 σ (0 : Int32) (0 : Int32) (1 : Int32) (1 : Int32)) (xs_cw h0 hW0 m_674) (hts _ w_38) ⟨rfl, rfl, Nat.le_of_ble_eq_true rfl, Nat.le_of_ble_eq_true rfl⟩ (hl.1.trans hml.symm) (by rw [hb]; exact d_MO_swap_150) (Nat.le_of_ble_eq_true rfl) ⟨Nat.le_of_ble_eq_true rfl, Nat.le_of_ble_eq_true rfl⟩ hX hW0 hS (fun v150 σ150 H locs hM150 hX hS => ?_) (fun E x H1 locs1 hM => by cases hM)
                      obtain ⟨ev150, es150⟩ := x_inl hM150
                      subst es150
                      subst ev150
                      refine lv_if_eq (tgt := 157) hx hb d_MO_swap_153 (by decide) (fun c153 => ?_) (fun c153 => ?_)
                      · exact absurd c153 (thr_n3 (by decide))
                      · subst hR
                        refine W.widen (k := 0) (n := 0) (by decide) (by decide) ?_; exact xs_v hx hb hr hlocks hX hS d_MO_swap_156
              · rw [if_neg c79] at hR
                refine lv_aload_n hx hb d_MO_swap_82 rfl (lv_at hl 2 rfl) ?_
                refine lv_iload_n hx hb d_MO_swap_83 rfl (lv_at hl 4 rfl) ?_
                refine lv_iload_n hx hb d_MO_swap_84 rfl (lv_at hl 5 rfl) ?_
                refine lv_iload hx hb d_MO_swap_85 (lv_at hl 6 rfl) ?_
                refine lv_iload hx hb d_MO_swap_87 (lv_at hl 7 rfl) ?_
                obtain ⟨cB89, hcB89, hoB89, hkB89⟩ := xw_recv (r := 15) (i := 0) hK hX (by decide) rfl rfl
                refine xc_s (rest := []) (x_invV (argsL := [.int u, .int cu, .int it, .int n]) hx hb hown (hts _ w_722) (hts _ w_724) (hts _ w_25) (x_code (hts _ w_725)) ⟨by decide, by decide⟩ hcB89 hoB89 hkB89 rfl rfl rfl d_MO_swap_89) (c_MO_isTooMuch h0 σ u cu it n hu hc hi) (xs_cw h0 hW0 m_725) (hts _ w_38) ⟨rfl, rfl, Nat.le_of_ble_eq_true rfl, Nat.le_of_ble_eq_true rfl⟩ (hl.1.trans hml.symm) (by rw [hb]; exact d_MO_swap_89) (Nat.le_of_ble_eq_true rfl) ⟨Nat.le_of_ble_eq_true rfl, Nat.le_of_ble_eq_true rfl⟩ hX hW0 hS (fun v89 σ89 H locs hM89 hX hS => ?_) (fun E x H1 locs1 hM => by cases hM)
                obtain ⟨ev89, es89⟩ := x_inl hM89
                rw [es89, tm_same] at hX
                subst ev89
                refine lv_if_eq (tgt := 99) hx hb d_MO_swap_92 (by decide) (fun c92 => ?_) (fun c92 => ?_)
                · rw [if_pos c92] at hR
                  refine lv_iconst (v := 0) hx hb d_MO_swap_99 (by decide) ?_
                  refine lv_istore (lv' := [(8, .int (0 : Int32)), (7, .int (0 : Int32)), (6, .int (0 : Int32)), (0, .ref (xB s0 + XA 15 0)), (1, .int v), (2, .int u), (3, .int cu), (4, .int it), (5, .int n)]) hx hb d_MO_swap_100 hl (by decide) rfl (fun ls hl => ?_)
                  refine lv_aload_n hx hb d_MO_swap_102 rfl (lv_at hl 3 rfl) ?_
                  refine lv_iload hx hb d_MO_swap_103 (lv_at hl 2 rfl) ?_
                  refine lv_iload hx hb d_MO_swap_105 (lv_at hl 1 rfl) ?_
                  refine lv_iload hx hb d_MO_swap_107 (lv_at hl 0 rfl) ?_
                  refine lv_iload hx hb d_MO_swap_109 (lv_at hl 2 rfl) ?_
                  refine lv_if_ne (tgt := 149) hx hb d_MO_swap_111 (by decide) (fun c111 => ?_) (fun c111 => ?_)
                  · exact absurd (by decide) c111
                  · refine lv_iload hx hb d_MO_swap_114 (lv_at hl 1 rfl) ?_
                    refine lv_if_ne (tgt := 149) hx hb d_MO_swap_116 (by decide) (fun c116 => ?_) (fun c116 => ?_)
                    · exact absurd (by decide) c116
                    · refine lv_aload_n hx hb d_MO_swap_119 rfl (lv_at hl 3 rfl) ?_
                      refine xw_get (C := R_MO) (T := F_MO) (N := 20) (r := 15) (i := 0) hx hb hts hi_MO hown hK hX (by decide) rfl rfl 16 (by decide) (hts _ w_611) rfl rfl d_MO_swap_120 ?_
                      refine lv_sipush (v := 240) hx hb d_MO_swap_123 (by decide) ?_
                      refine lv_iload_n hx hb d_MO_swap_126 rfl (lv_at hl 5 rfl) ?_
                      refine lv_imul hx hb d_MO_swap_127 ?_
                      refine lv_bipush (v := 30) hx hb d_MO_swap_128 (by decide) ?_
                      refine lv_iload_n hx hb d_MO_swap_130 rfl (lv_at hl 6 rfl) ?_
                      refine lv_imul hx hb d_MO_swap_131 ?_
                      refine lv_iadd hx hb d_MO_swap_132 ?_
                      refine lv_iload hx hb d_MO_swap_133 (lv_at hl 7 rfl) ?_
                      refine lv_iadd hx hb d_MO_swap_135 ?_
                      refine xw_iald (r := 28) (i := 0) hx hb hK hX (by decide) 0 rfl rfl (j := ((((240 : Int32) * u) + ((30 : Int32) * cu)) + it)) (o_c3 hu hc hi) d_MO_swap_136 ?_
                      refine lv_iload hx hb d_MO_swap_137 (lv_at hl 8 rfl) ?_
                      refine lv_iadd hx hb d_MO_swap_139 ?_
                      refine lv_bipush (v := 99) hx hb d_MO_swap_140 (by decide) ?_
                      refine lv_icmp_le (tgt := 149) hx hb d_MO_swap_142 (by decide) (fun c142 => ?_) (fun c142 => ?_)
                      · rw [if_pos c142] at hR
                        refine lv_iconst (v := 0) hx hb d_MO_swap_149 (by decide) ?_
                        obtain ⟨cB150, hcB150, hoB150, hkB150⟩ := xw_recv (r := 15) (i := 0) hK hX (by decide) rfl rfl
                        refine xc_s (rest := []) (x_invV (argsL := [.int (0 : Int32), .int (0 : Int32), .int (0 : Int32), .int (0 : Int32)]) hx hb hown (hts _ w_671) (hts _ w_673) (hts _ w_20) (x_code (hts _ w_674)) ⟨by decide, by decide⟩ hcB150 hoB150 hkB150 rfl rfl rfl d_MO_swap_150) (c_MO_throwing h0 σ (0 : Int32) (0 : Int32) (0 : Int32) (0 : Int32)) (xs_cw h0 hW0 m_674) (hts _ w_38) ⟨rfl, rfl, Nat.le_of_ble_eq_true rfl, Nat.le_of_ble_eq_true rfl⟩ (hl.1.trans hml.symm) (by rw [hb]; exact d_MO_swap_150) (Nat.le_of_ble_eq_true rfl) ⟨Nat.le_of_ble_eq_true rfl, Nat.le_of_ble_eq_true rfl⟩ hX hW0 hS (fun v150 σ150 H locs hM150 hX hS => ?_) (fun E x H1 locs1 hM => by cases hM)
                        obtain ⟨ev150, es150⟩ := x_inl hM150
                        subst es150
                        subst ev150
                        refine lv_if_eq (tgt := 157) hx hb d_MO_swap_153 (by decide) (fun c153 => ?_) (fun c153 => ?_)
                        · refine lv_aload_n hx hb d_MO_swap_157 rfl (lv_at hl 3 rfl) ?_
                          refine xw_get (C := R_MO) (T := F_MO) (N := 20) (r := 15) (i := 0) hx hb hts hi_MO hown hK hX (by decide) rfl rfl 16 (by decide) (hts _ w_611) rfl rfl d_MO_swap_158 ?_
                          refine lv_sipush (v := 240) hx hb d_MO_swap_161 (by decide) ?_
                          refine lv_iload_n hx hb d_MO_swap_164 rfl (lv_at hl 4 rfl) ?_
                          refine lv_imul hx hb d_MO_swap_165 ?_
                          refine lv_bipush (v := 30) hx hb d_MO_swap_166 (by decide) ?_
                          refine lv_iload_n hx hb d_MO_swap_168 rfl (lv_at hl 6 rfl) ?_
                          refine lv_imul hx hb d_MO_swap_169 ?_
                          refine lv_iadd hx hb d_MO_swap_170 ?_
                          refine lv_iload hx hb d_MO_swap_171 (lv_at hl 7 rfl) ?_
                          refine lv_iadd hx hb d_MO_swap_173 ?_
                          refine lv_dup2_11 hx hb d_MO_swap_174 rfl rfl ?_
                          refine xw_iald (r := 28) (i := 0) hx hb hK hX (by decide) 0 rfl rfl (j := ((((240 : Int32) * v) + ((30 : Int32) * cu)) + it)) (o_c3 hv hc hi) d_MO_swap_175 ?_
                          refine lv_iload hx hb d_MO_swap_176 (lv_at hl 8 rfl) ?_
                          refine lv_isub hx hb d_MO_swap_178 ?_
                          refine xw_iast (r := 28) (i := 0) (ent' := XE dA (xB s0) (xuI (S_MO_throwing σ (0 : Int32) (0 : Int32) (0 : Int32) (0 : Int32)).2 28 0 ((((240 : Int32) * v) + ((30 : Int32) * cu)) + it).toNatClampNeg ((((S_MO_throwing σ (0 : Int32) (0 : Int32) (0 : Int32) (0 : Int32)).2).1 28 0 ((((240 : Int32) * v) + ((30 : Int32) * cu)) + it).toNatClampNeg) - n))) hx hb hK xInj hX hS (xA_in _ _ _) (by decide) 0 rfl rfl (j := ((((240 : Int32) * v) + ((30 : Int32) * cu)) + it)) (o_c3 hv hc hi) ((xe_uI dA (xB s0) ((S_MO_throwing σ (0 : Int32) (0 : Int32) (0 : Int32) (0 : Int32)).2) 28 0 ((((240 : Int32) * v) + ((30 : Int32) * cu)) + it).toNatClampNeg ((((S_MO_throwing σ (0 : Int32) (0 : Int32) (0 : Int32) (0 : Int32)).2).1 28 0 ((((240 : Int32) * v) + ((30 : Int32) * cu)) + it).toNatClampNeg) - n)).trans rfl) (xe_oI dA (xB s0) ((S_MO_throwing σ (0 : Int32) (0 : Int32) (0 : Int32) (0 : Int32)).2) 28 0 ((((240 : Int32) * v) + ((30 : Int32) * cu)) + it).toNatClampNeg ((((S_MO_throwing σ (0 : Int32) (0 : Int32) (0 : Int32) (0 : Int32)).2).1 28 0 ((((240 : Int32) * v) + ((30 : Int32) * cu)) + it).toNatClampNeg) - n)) d_MO_swap_179 (fun H locs hX hS => ?_)
                          refine lv_aload_n hx hb d_MO_swap_180 rfl (lv_at hl 3 rfl) ?_
                          refine xw_get (C := R_MO) (T := F_MO) (N := 20) (r := 15) (i := 0) hx hb hts hi_MO hown hK hX (by decide) rfl rfl 16 (by decide) (hts _ w_611) rfl rfl d_MO_swap_181 ?_
                          refine lv_sipush (v := 240) hx hb d_MO_swap_184 (by decide) ?_
                          refine lv_iload_n hx hb d_MO_swap_187 rfl (lv_at hl 5 rfl) ?_
                          refine lv_imul hx hb d_MO_swap_188 ?_
                          refine lv_bipush (v := 30) hx hb d_MO_swap_189 (by decide) ?_
                          refine lv_iload_n hx hb d_MO_swap_191 rfl (lv_at hl 6 rfl) ?_
                          refine lv_imul hx hb d_MO_swap_192 ?_
                          refine lv_iadd hx hb d_MO_swap_193 ?_
                          refine lv_iload hx hb d_MO_swap_194 (lv_at hl 7 rfl) ?_
                          refine lv_iadd hx hb d_MO_swap_196 ?_
                          refine lv_dup2_11 hx hb d_MO_swap_197 rfl rfl ?_
                          refine xw_iald (r := 28) (i := 0) hx hb hK hX (by decide) 0 rfl rfl (j := ((((240 : Int32) * u) + ((30 : Int32) * cu)) + it)) (o_c3 hu hc hi) d_MO_swap_198 ?_
                          refine lv_iload hx hb d_MO_swap_199 (lv_at hl 8 rfl) ?_
                          refine lv_iadd hx hb d_MO_swap_201 ?_
                          refine xw_iast (r := 28) (i := 0) (ent' := XE dA (xB s0) (xuI (xuI (S_MO_throwing σ (0 : Int32) (0 : Int32) (0 : Int32) (0 : Int32)).2 28 0 ((((240 : Int32) * v) + ((30 : Int32) * cu)) + it).toNatClampNeg ((((S_MO_throwing σ (0 : Int32) (0 : Int32) (0 : Int32) (0 : Int32)).2).1 28 0 ((((240 : Int32) * v) + ((30 : Int32) * cu)) + it).toNatClampNeg) - n)) 28 0 ((((240 : Int32) * u) + ((30 : Int32) * cu)) + it).toNatClampNeg (((xuI (S_MO_throwing σ (0 : Int32) (0 : Int32) (0 : Int32) (0 : Int32)).2 28 0 ((((240 : Int32) * v) + ((30 : Int32) * cu)) + it).toNatClampNeg ((((S_MO_throwing σ (0 : Int32) (0 : Int32) (0 : Int32) (0 : Int32)).2).1 28 0 ((((240 : Int32) * v) + ((30 : Int32) * cu)) + it).toNatClampNeg) - n)).1 28 0 ((((240 : Int32) * u) + ((30 : Int32) * cu)) + it).toNatClampNeg) + n))) hx hb hK xInj hX hS (xA_in _ _ _) (by decide) 0 rfl rfl (j := ((((240 : Int32) * u) + ((30 : Int32) * cu)) + it)) (o_c3 hu hc hi) ((xe_uI dA (xB s0) (xuI (S_MO_throwing σ (0 : Int32) (0 : Int32) (0 : Int32) (0 : Int32)).2 28 0 ((((240 : Int32) * v) + ((30 : Int32) * cu)) + it).toNatClampNeg ((((S_MO_throwing σ (0 : Int32) (0 : Int32) (0 : Int32) (0 : Int32)).2).1 28 0 ((((240 : Int32) * v) + ((30 : Int32) * cu)) + it).toNatClampNeg) - n)) 28 0 ((((240 : Int32) * u) + ((30 : Int32) * cu)) + it).toNatClampNeg (((xuI (S_MO_throwing σ (0 : Int32) (0 : Int32) (0 : Int32) (0 : Int32)).2 28 0 ((((240 : Int32) * v) + ((30 : Int32) * cu)) + it).toNatClampNeg ((((S_MO_throwing σ (0 : Int32) (0 : Int32) (0 : Int32) (0 : Int32)).2).1 28 0 ((((240 : Int32) * v) + ((30 : Int32) * cu)) + it).toNatClampNeg) - n)).1 28 0 ((((240 : Int32) * u) + ((30 : Int32) * cu)) + it).toNatClampNeg) + n)).trans rfl) (xe_oI dA (xB s0) (xuI (S_MO_throwing σ (0 : Int32) (0 : Int32) (0 : Int32) (0 : Int32)).2 28 0 ((((240 : Int32) * v) + ((30 : Int32) * cu)) + it).toNatClampNeg ((((S_MO_throwing σ (0 : Int32) (0 : Int32) (0 : Int32) (0 : Int32)).2).1 28 0 ((((240 : Int32) * v) + ((30 : Int32) * cu)) + it).toNatClampNeg) - n)) 28 0 ((((240 : Int32) * u) + ((30 : Int32) * cu)) + it).toNatClampNeg (((xuI (S_MO_throwing σ (0 : Int32) (0 : Int32) (0 : Int32) (0 : Int32)).2 28 0 ((((240 : Int32) * v) + ((30 : Int32) * cu)) + it).toNatClampNeg ((((S_MO_throwing σ (0 : Int32) (0 : Int32) (0 : Int32) (0 : Int32)).2).1 28 0 ((((240 : Int32) * v) + ((30 : Int32) * cu)) + it).toNatClampNeg) - n)).1 28 0 ((((240 : Int32) * u) + ((30 : Int32) * cu)) + it).toNatClampNeg) + n)) d_MO_swap_202 (fun H locs hX hS => ?_)
                          refine lv_aload_n hx hb d_MO_swap_203 rfl (lv_at hl 3 rfl) ?_
                          refine lv_iload_n hx hb d_MO_swap_204 rfl (lv_at hl 4 rfl) ?_
                          refine lv_iload hx hb d_MO_swap_205 (lv_at hl 7 rfl) ?_
                          refine lv_iload hx hb d_MO_swap_207 (lv_at hl 8 rfl) ?_
                          refine lv_ineg hx hb d_MO_swap_209 ?_
                          obtain ⟨cB210, hcB210, hoB210, hkB210⟩ := xw_recv (r := 15) (i := 0) hK hX (by decide) rfl rfl
                          refine xc_s (rest := []) (x_invV (argsL := [.int v, .int it, .int (-n)]) hx hb hown (hts _ w_758) (hts _ w_760) (hts _ w_31) (x_code (hts _ w_761)) ⟨by decide, by decide⟩ hcB210 hoB210 hkB210 rfl rfl rfl d_MO_swap_210) (c_MO_tell h0 (xuI (xuI (S_MO_throwing σ (0 : Int32) (0 : Int32) (0 : Int32) (0 : Int32)).2 28 0 ((((240 : Int32) * v) + ((30 : Int32) * cu)) + it).toNatClampNeg ((((S_MO_throwing σ (0 : Int32) (0 : Int32) (0 : Int32) (0 : Int32)).2).1 28 0 ((((240 : Int32) * v) + ((30 : Int32) * cu)) + it).toNatClampNeg) - n)) 28 0 ((((240 : Int32) * u) + ((30 : Int32) * cu)) + it).toNatClampNeg (((xuI (S_MO_throwing σ (0 : Int32) (0 : Int32) (0 : Int32) (0 : Int32)).2 28 0 ((((240 : Int32) * v) + ((30 : Int32) * cu)) + it).toNatClampNeg ((((S_MO_throwing σ (0 : Int32) (0 : Int32) (0 : Int32) (0 : Int32)).2).1 28 0 ((((240 : Int32) * v) + ((30 : Int32) * cu)) + it).toNatClampNeg) - n)).1 28 0 ((((240 : Int32) * u) + ((30 : Int32) * cu)) + it).toNatClampNeg) + n)) v it (-n) hok.2.2.2.1) (xs_cw h0 hW0 m_761) (hts _ w_38) ⟨rfl, rfl, Nat.le_of_ble_eq_true rfl, Nat.le_of_ble_eq_true rfl⟩ (hl.1.trans hml.symm) (by rw [hb]; exact d_MO_swap_210) (Nat.le_of_ble_eq_true rfl) ⟨Nat.le_of_ble_eq_true rfl, Nat.le_of_ble_eq_true rfl⟩ hX hW0 hS (fun v210 σ210 H locs hM210 hX hS => ?_) (fun E x H1 locs1 hM => by cases hM)
                          obtain ⟨ev210, es210⟩ := x_inl hM210
                          subst es210
                          refine lv_aload_n hx hb d_MO_swap_213 rfl (lv_at hl 3 rfl) ?_
                          refine lv_iload_n hx hb d_MO_swap_214 rfl (lv_at hl 5 rfl) ?_
                          refine lv_iload hx hb d_MO_swap_215 (lv_at hl 7 rfl) ?_
                          refine lv_iload hx hb d_MO_swap_217 (lv_at hl 8 rfl) ?_
                          obtain ⟨cB219, hcB219, hoB219, hkB219⟩ := xw_recv (r := 15) (i := 0) hK hX (by decide) rfl rfl
                          refine xc_s (rest := []) (x_invV (argsL := [.int u, .int it, .int n]) hx hb hown (hts _ w_758) (hts _ w_760) (hts _ w_31) (x_code (hts _ w_761)) ⟨by decide, by decide⟩ hcB219 hoB219 hkB219 rfl rfl rfl d_MO_swap_219) (c_MO_tell h0 ((S_MO_tell (xuI (xuI (S_MO_throwing σ (0 : Int32) (0 : Int32) (0 : Int32) (0 : Int32)).2 28 0 ((((240 : Int32) * v) + ((30 : Int32) * cu)) + it).toNatClampNeg ((((S_MO_throwing σ (0 : Int32) (0 : Int32) (0 : Int32) (0 : Int32)).2).1 28 0 ((((240 : Int32) * v) + ((30 : Int32) * cu)) + it).toNatClampNeg) - n)) 28 0 ((((240 : Int32) * u) + ((30 : Int32) * cu)) + it).toNatClampNeg (((xuI (S_MO_throwing σ (0 : Int32) (0 : Int32) (0 : Int32) (0 : Int32)).2 28 0 ((((240 : Int32) * v) + ((30 : Int32) * cu)) + it).toNatClampNeg ((((S_MO_throwing σ (0 : Int32) (0 : Int32) (0 : Int32) (0 : Int32)).2).1 28 0 ((((240 : Int32) * v) + ((30 : Int32) * cu)) + it).toNatClampNeg) - n)).1 28 0 ((((240 : Int32) * u) + ((30 : Int32) * cu)) + it).toNatClampNeg) + n)) v it (-n)).2) u it n (o_mrow2 hok.2.2.2)) (xs_cw h0 hW0 m_761) (hts _ w_38) ⟨rfl, rfl, Nat.le_of_ble_eq_true rfl, Nat.le_of_ble_eq_true rfl⟩ (hl.1.trans hml.symm) (by rw [hb]; exact d_MO_swap_219) (Nat.le_of_ble_eq_true rfl) ⟨Nat.le_of_ble_eq_true rfl, Nat.le_of_ble_eq_true rfl⟩ hX hW0 hS (fun v219 σ219 H locs hM219 hX hS => ?_) (fun E x H1 locs1 hM => by cases hM)
                          obtain ⟨ev219, es219⟩ := x_inl hM219
                          subst es219
                          subst hR
                          refine W.widen (k := 0) (n := 0) (by decide) (by decide) ?_; exact xs_v hx hb hr hlocks hX hS d_MO_swap_222
                        · exact absurd thr_z c153
                      · rw [if_neg c142] at hR
                        refine lv_iconst (v := 1) hx hb d_MO_swap_145 (by decide) ?_
                        refine lv_goto (tgt := 150) hx hb d_MO_swap_146 (by decide) ?_
                        obtain ⟨cB150, hcB150, hoB150, hkB150⟩ := xw_recv (r := 15) (i := 0) hK hX (by decide) rfl rfl
                        refine xc_s (rest := []) (x_invV (argsL := [.int (0 : Int32), .int (0 : Int32), .int (0 : Int32), .int (1 : Int32)]) hx hb hown (hts _ w_671) (hts _ w_673) (hts _ w_20) (x_code (hts _ w_674)) ⟨by decide, by decide⟩ hcB150 hoB150 hkB150 rfl rfl rfl d_MO_swap_150) (c_MO_throwing h0 σ (0 : Int32) (0 : Int32) (0 : Int32) (1 : Int32)) (xs_cw h0 hW0 m_674) (hts _ w_38) ⟨rfl, rfl, Nat.le_of_ble_eq_true rfl, Nat.le_of_ble_eq_true rfl⟩ (hl.1.trans hml.symm) (by rw [hb]; exact d_MO_swap_150) (Nat.le_of_ble_eq_true rfl) ⟨Nat.le_of_ble_eq_true rfl, Nat.le_of_ble_eq_true rfl⟩ hX hW0 hS (fun v150 σ150 H locs hM150 hX hS => ?_) (fun E x H1 locs1 hM => by cases hM)
                        obtain ⟨ev150, es150⟩ := x_inl hM150
                        subst es150
                        subst ev150
                        refine lv_if_eq (tgt := 157) hx hb d_MO_swap_153 (by decide) (fun c153 => ?_) (fun c153 => ?_)
                        · exact absurd c153 (thr_n4 (by decide))
                        · subst hR
                          refine W.widen (k := 0) (n := 0) (by decide) (by decide) ?_; exact xs_v hx hb hr hlocks hX hS d_MO_swap_156
                · rw [if_neg c92] at hR
                  refine lv_iconst (v := 1) hx hb d_MO_swap_95 (by decide) ?_
                  refine lv_goto (tgt := 100) hx hb d_MO_swap_96 (by decide) ?_
                  refine lv_istore (lv' := [(8, .int (1 : Int32)), (7, .int (0 : Int32)), (6, .int (0 : Int32)), (0, .ref (xB s0 + XA 15 0)), (1, .int v), (2, .int u), (3, .int cu), (4, .int it), (5, .int n)]) hx hb d_MO_swap_100 hl (by decide) rfl (fun ls hl => ?_)
                  refine lv_aload_n hx hb d_MO_swap_102 rfl (lv_at hl 3 rfl) ?_
                  refine lv_iload hx hb d_MO_swap_103 (lv_at hl 2 rfl) ?_
                  refine lv_iload hx hb d_MO_swap_105 (lv_at hl 1 rfl) ?_
                  refine lv_iload hx hb d_MO_swap_107 (lv_at hl 0 rfl) ?_
                  refine lv_iload hx hb d_MO_swap_109 (lv_at hl 2 rfl) ?_
                  refine lv_if_ne (tgt := 149) hx hb d_MO_swap_111 (by decide) (fun c111 => ?_) (fun c111 => ?_)
                  · exact absurd (by decide) c111
                  · refine lv_iload hx hb d_MO_swap_114 (lv_at hl 1 rfl) ?_
                    refine lv_if_ne (tgt := 149) hx hb d_MO_swap_116 (by decide) (fun c116 => ?_) (fun c116 => ?_)
                    · exact absurd (by decide) c116
                    · refine lv_aload_n hx hb d_MO_swap_119 rfl (lv_at hl 3 rfl) ?_
                      refine xw_get (C := R_MO) (T := F_MO) (N := 20) (r := 15) (i := 0) hx hb hts hi_MO hown hK hX (by decide) rfl rfl 16 (by decide) (hts _ w_611) rfl rfl d_MO_swap_120 ?_
                      refine lv_sipush (v := 240) hx hb d_MO_swap_123 (by decide) ?_
                      refine lv_iload_n hx hb d_MO_swap_126 rfl (lv_at hl 5 rfl) ?_
                      refine lv_imul hx hb d_MO_swap_127 ?_
                      refine lv_bipush (v := 30) hx hb d_MO_swap_128 (by decide) ?_
                      refine lv_iload_n hx hb d_MO_swap_130 rfl (lv_at hl 6 rfl) ?_
                      refine lv_imul hx hb d_MO_swap_131 ?_
                      refine lv_iadd hx hb d_MO_swap_132 ?_
                      refine lv_iload hx hb d_MO_swap_133 (lv_at hl 7 rfl) ?_
                      refine lv_iadd hx hb d_MO_swap_135 ?_
                      refine xw_iald (r := 28) (i := 0) hx hb hK hX (by decide) 0 rfl rfl (j := ((((240 : Int32) * u) + ((30 : Int32) * cu)) + it)) (o_c3 hu hc hi) d_MO_swap_136 ?_
                      refine lv_iload hx hb d_MO_swap_137 (lv_at hl 8 rfl) ?_
                      refine lv_iadd hx hb d_MO_swap_139 ?_
                      refine lv_bipush (v := 99) hx hb d_MO_swap_140 (by decide) ?_
                      refine lv_icmp_le (tgt := 149) hx hb d_MO_swap_142 (by decide) (fun c142 => ?_) (fun c142 => ?_)
                      · rw [if_pos c142] at hR
                        refine lv_iconst (v := 0) hx hb d_MO_swap_149 (by decide) ?_
                        obtain ⟨cB150, hcB150, hoB150, hkB150⟩ := xw_recv (r := 15) (i := 0) hK hX (by decide) rfl rfl
                        refine xc_s (rest := []) (x_invV (argsL := [.int (0 : Int32), .int (0 : Int32), .int (1 : Int32), .int (0 : Int32)]) hx hb hown (hts _ w_671) (hts _ w_673) (hts _ w_20) (x_code (hts _ w_674)) ⟨by decide, by decide⟩ hcB150 hoB150 hkB150 rfl rfl rfl d_MO_swap_150) (c_MO_throwing h0 σ (0 : Int32) (0 : Int32) (1 : Int32) (0 : Int32)) (xs_cw h0 hW0 m_674) (hts _ w_38) ⟨rfl, rfl, Nat.le_of_ble_eq_true rfl, Nat.le_of_ble_eq_true rfl⟩ (hl.1.trans hml.symm) (by rw [hb]; exact d_MO_swap_150) (Nat.le_of_ble_eq_true rfl) ⟨Nat.le_of_ble_eq_true rfl, Nat.le_of_ble_eq_true rfl⟩ hX hW0 hS (fun v150 σ150 H locs hM150 hX hS => ?_) (fun E x H1 locs1 hM => by cases hM)
                        obtain ⟨ev150, es150⟩ := x_inl hM150
                        subst es150
                        subst ev150
                        refine lv_if_eq (tgt := 157) hx hb d_MO_swap_153 (by decide) (fun c153 => ?_) (fun c153 => ?_)
                        · exact absurd c153 (thr_n3 (by decide))
                        · subst hR
                          refine W.widen (k := 0) (n := 0) (by decide) (by decide) ?_; exact xs_v hx hb hr hlocks hX hS d_MO_swap_156
                      · rw [if_neg c142] at hR
                        refine lv_iconst (v := 1) hx hb d_MO_swap_145 (by decide) ?_
                        refine lv_goto (tgt := 150) hx hb d_MO_swap_146 (by decide) ?_
                        obtain ⟨cB150, hcB150, hoB150, hkB150⟩ := xw_recv (r := 15) (i := 0) hK hX (by decide) rfl rfl
                        refine xc_s (rest := []) (x_invV (argsL := [.int (0 : Int32), .int (0 : Int32), .int (1 : Int32), .int (1 : Int32)]) hx hb hown (hts _ w_671) (hts _ w_673) (hts _ w_20) (x_code (hts _ w_674)) ⟨by decide, by decide⟩ hcB150 hoB150 hkB150 rfl rfl rfl d_MO_swap_150) (c_MO_throwing h0 σ (0 : Int32) (0 : Int32) (1 : Int32) (1 : Int32)) (xs_cw h0 hW0 m_674) (hts _ w_38) ⟨rfl, rfl, Nat.le_of_ble_eq_true rfl, Nat.le_of_ble_eq_true rfl⟩ (hl.1.trans hml.symm) (by rw [hb]; exact d_MO_swap_150) (Nat.le_of_ble_eq_true rfl) ⟨Nat.le_of_ble_eq_true rfl, Nat.le_of_ble_eq_true rfl⟩ hX hW0 hS (fun v150 σ150 H locs hM150 hX hS => ?_) (fun E x H1 locs1 hM => by cases hM)
                        obtain ⟨ev150, es150⟩ := x_inl hM150
                        subst es150
                        subst ev150
                        refine lv_if_eq (tgt := 157) hx hb d_MO_swap_153 (by decide) (fun c153 => ?_) (fun c153 => ?_)
                        · exact absurd c153 (thr_n3 (by decide))
                        · subst hR
                          refine W.widen (k := 0) (n := 0) (by decide) (by decide) ?_; exact xs_v hx hb hr hlocks hX hS d_MO_swap_156
        · rw [if_pos c39] at hR
          refine lv_iconst (v := 1) hx hb d_MO_swap_42 (by decide) ?_
          refine lv_goto (tgt := 47) hx hb d_MO_swap_43 (by decide) ?_
          refine lv_istore (lv' := [(7, .int (1 : Int32)), (6, .int (0 : Int32)), (0, .ref (xB s0 + XA 15 0)), (1, .int v), (2, .int u), (3, .int cu), (4, .int it), (5, .int n)]) hx hb d_MO_swap_47 hl (by decide) rfl (fun ls hl => ?_)
          refine lv_iload hx hb d_MO_swap_49 (lv_at hl 1 rfl) ?_
          refine lv_if_ne (tgt := 99) hx hb d_MO_swap_51 (by decide) (fun c51 => ?_) (fun c51 => ?_)
          · exact absurd (by decide) c51
          · refine lv_iload hx hb d_MO_swap_54 (lv_at hl 0 rfl) ?_
            refine lv_if_ne (tgt := 99) hx hb d_MO_swap_56 (by decide) (fun c56 => ?_) (fun c56 => ?_)
            · refine lv_iconst (v := 0) hx hb d_MO_swap_99 (by decide) ?_
              refine lv_istore (lv' := [(8, .int (0 : Int32)), (7, .int (1 : Int32)), (6, .int (0 : Int32)), (0, .ref (xB s0 + XA 15 0)), (1, .int v), (2, .int u), (3, .int cu), (4, .int it), (5, .int n)]) hx hb d_MO_swap_100 hl (by decide) rfl (fun ls hl => ?_)
              refine lv_aload_n hx hb d_MO_swap_102 rfl (lv_at hl 3 rfl) ?_
              refine lv_iload hx hb d_MO_swap_103 (lv_at hl 2 rfl) ?_
              refine lv_iload hx hb d_MO_swap_105 (lv_at hl 1 rfl) ?_
              refine lv_iload hx hb d_MO_swap_107 (lv_at hl 0 rfl) ?_
              refine lv_iload hx hb d_MO_swap_109 (lv_at hl 2 rfl) ?_
              refine lv_if_ne (tgt := 149) hx hb d_MO_swap_111 (by decide) (fun c111 => ?_) (fun c111 => ?_)
              · exact absurd (by decide) c111
              · refine lv_iload hx hb d_MO_swap_114 (lv_at hl 1 rfl) ?_
                refine lv_if_ne (tgt := 149) hx hb d_MO_swap_116 (by decide) (fun c116 => ?_) (fun c116 => ?_)
                · refine lv_iconst (v := 0) hx hb d_MO_swap_149 (by decide) ?_
                  obtain ⟨cB150, hcB150, hoB150, hkB150⟩ := xw_recv (r := 15) (i := 0) hK hX (by decide) rfl rfl
                  refine xc_s (rest := []) (x_invV (argsL := [.int (0 : Int32), .int (1 : Int32), .int (0 : Int32), .int (0 : Int32)]) hx hb hown (hts _ w_671) (hts _ w_673) (hts _ w_20) (x_code (hts _ w_674)) ⟨by decide, by decide⟩ hcB150 hoB150 hkB150 rfl rfl rfl d_MO_swap_150) (c_MO_throwing h0 σ (0 : Int32) (1 : Int32) (0 : Int32) (0 : Int32)) (xs_cw h0 hW0 m_674) (hts _ w_38) ⟨rfl, rfl, Nat.le_of_ble_eq_true rfl, Nat.le_of_ble_eq_true rfl⟩ (hl.1.trans hml.symm) (by rw [hb]; exact d_MO_swap_150) (Nat.le_of_ble_eq_true rfl) ⟨Nat.le_of_ble_eq_true rfl, Nat.le_of_ble_eq_true rfl⟩ hX hW0 hS (fun v150 σ150 H locs hM150 hX hS => ?_) (fun E x H1 locs1 hM => by cases hM)
                  obtain ⟨ev150, es150⟩ := x_inl hM150
                  subst es150
                  subst ev150
                  refine lv_if_eq (tgt := 157) hx hb d_MO_swap_153 (by decide) (fun c153 => ?_) (fun c153 => ?_)
                  · exact absurd c153 (thr_n2 (by decide))
                  · subst hR
                    refine W.widen (k := 0) (n := 0) (by decide) (by decide) ?_; exact xs_v hx hb hr hlocks hX hS d_MO_swap_156
                · exact absurd c116 (by decide)
            · exact absurd c56 (by decide)
      · rw [if_pos c21] at hR
        refine lv_iconst (v := 1) hx hb d_MO_swap_24 (by decide) ?_
        refine lv_goto (tgt := 29) hx hb d_MO_swap_25 (by decide) ?_
        refine lv_istore (lv' := [(6, .int (1 : Int32)), (0, .ref (xB s0 + XA 15 0)), (1, .int v), (2, .int u), (3, .int cu), (4, .int it), (5, .int n)]) hx hb d_MO_swap_29 hl (by decide) rfl (fun ls hl => ?_)
        refine lv_iload hx hb d_MO_swap_31 (lv_at hl 6 rfl) ?_
        refine lv_iconst (v := 1) hx hb d_MO_swap_33 (by decide) ?_
        refine lv_bipush (v := 99) hx hb d_MO_swap_34 (by decide) ?_
        refine xc_f (rest := []) (x_invS (argsL := [.int n, .int (1 : Int32), .int (99 : Int32)]) hx hb hown (hts _ w_664) (hts _ w_665) (hts _ w_38) (x_code (hts _ w_666)) ⟨by decide, by decide⟩ rfl rfl rfl d_MO_swap_36) (c_MO_in h0 σ n (1 : Int32) (99 : Int32)) (xs_cw h0 hW0 m_666) (hts _ w_38) ⟨rfl, rfl, Nat.le_of_ble_eq_true rfl, Nat.le_of_ble_eq_true rfl⟩ (hl.1.trans hml.symm) (by rw [hb]; exact d_MO_swap_36) (Nat.le_of_ble_eq_true rfl) ⟨Nat.le_of_ble_eq_true rfl, Nat.le_of_ble_eq_true rfl⟩ hX ⟨hW0, xo_S hS⟩ ?_
        refine lv_if_ne (tgt := 46) hx hb d_MO_swap_39 (by decide) (fun c39 => ?_) (fun c39 => ?_)
        · rw [if_neg c39] at hR
          refine lv_iconst (v := 0) hx hb d_MO_swap_46 (by decide) ?_
          refine lv_istore (lv' := [(7, .int (0 : Int32)), (6, .int (1 : Int32)), (0, .ref (xB s0 + XA 15 0)), (1, .int v), (2, .int u), (3, .int cu), (4, .int it), (5, .int n)]) hx hb d_MO_swap_47 hl (by decide) rfl (fun ls hl => ?_)
          refine lv_iload hx hb d_MO_swap_49 (lv_at hl 1 rfl) ?_
          refine lv_if_ne (tgt := 99) hx hb d_MO_swap_51 (by decide) (fun c51 => ?_) (fun c51 => ?_)
          · refine lv_iconst (v := 0) hx hb d_MO_swap_99 (by decide) ?_
            refine lv_istore (lv' := [(8, .int (0 : Int32)), (7, .int (0 : Int32)), (6, .int (1 : Int32)), (0, .ref (xB s0 + XA 15 0)), (1, .int v), (2, .int u), (3, .int cu), (4, .int it), (5, .int n)]) hx hb d_MO_swap_100 hl (by decide) rfl (fun ls hl => ?_)
            refine lv_aload_n hx hb d_MO_swap_102 rfl (lv_at hl 3 rfl) ?_
            refine lv_iload hx hb d_MO_swap_103 (lv_at hl 2 rfl) ?_
            refine lv_iload hx hb d_MO_swap_105 (lv_at hl 1 rfl) ?_
            refine lv_iload hx hb d_MO_swap_107 (lv_at hl 0 rfl) ?_
            refine lv_iload hx hb d_MO_swap_109 (lv_at hl 2 rfl) ?_
            refine lv_if_ne (tgt := 149) hx hb d_MO_swap_111 (by decide) (fun c111 => ?_) (fun c111 => ?_)
            · refine lv_iconst (v := 0) hx hb d_MO_swap_149 (by decide) ?_
              obtain ⟨cB150, hcB150, hoB150, hkB150⟩ := xw_recv (r := 15) (i := 0) hK hX (by decide) rfl rfl
              refine xc_s (rest := []) (x_invV (argsL := [.int (1 : Int32), .int (0 : Int32), .int (0 : Int32), .int (0 : Int32)]) hx hb hown (hts _ w_671) (hts _ w_673) (hts _ w_20) (x_code (hts _ w_674)) ⟨by decide, by decide⟩ hcB150 hoB150 hkB150 rfl rfl rfl d_MO_swap_150) (c_MO_throwing h0 σ (1 : Int32) (0 : Int32) (0 : Int32) (0 : Int32)) (xs_cw h0 hW0 m_674) (hts _ w_38) ⟨rfl, rfl, Nat.le_of_ble_eq_true rfl, Nat.le_of_ble_eq_true rfl⟩ (hl.1.trans hml.symm) (by rw [hb]; exact d_MO_swap_150) (Nat.le_of_ble_eq_true rfl) ⟨Nat.le_of_ble_eq_true rfl, Nat.le_of_ble_eq_true rfl⟩ hX hW0 hS (fun v150 σ150 H locs hM150 hX hS => ?_) (fun E x H1 locs1 hM => by cases hM)
              obtain ⟨ev150, es150⟩ := x_inl hM150
              subst es150
              subst ev150
              refine lv_if_eq (tgt := 157) hx hb d_MO_swap_153 (by decide) (fun c153 => ?_) (fun c153 => ?_)
              · exact absurd c153 (thr_n1 (by decide))
              · subst hR
                refine W.widen (k := 0) (n := 0) (by decide) (by decide) ?_; exact xs_v hx hb hr hlocks hX hS d_MO_swap_156
            · exact absurd c111 (by decide)
          · exact absurd c51 (by decide)
        · rw [if_pos c39] at hR
          refine lv_iconst (v := 1) hx hb d_MO_swap_42 (by decide) ?_
          refine lv_goto (tgt := 47) hx hb d_MO_swap_43 (by decide) ?_
          refine lv_istore (lv' := [(7, .int (1 : Int32)), (6, .int (1 : Int32)), (0, .ref (xB s0 + XA 15 0)), (1, .int v), (2, .int u), (3, .int cu), (4, .int it), (5, .int n)]) hx hb d_MO_swap_47 hl (by decide) rfl (fun ls hl => ?_)
          refine lv_iload hx hb d_MO_swap_49 (lv_at hl 1 rfl) ?_
          refine lv_if_ne (tgt := 99) hx hb d_MO_swap_51 (by decide) (fun c51 => ?_) (fun c51 => ?_)
          · refine lv_iconst (v := 0) hx hb d_MO_swap_99 (by decide) ?_
            refine lv_istore (lv' := [(8, .int (0 : Int32)), (7, .int (1 : Int32)), (6, .int (1 : Int32)), (0, .ref (xB s0 + XA 15 0)), (1, .int v), (2, .int u), (3, .int cu), (4, .int it), (5, .int n)]) hx hb d_MO_swap_100 hl (by decide) rfl (fun ls hl => ?_)
            refine lv_aload_n hx hb d_MO_swap_102 rfl (lv_at hl 3 rfl) ?_
            refine lv_iload hx hb d_MO_swap_103 (lv_at hl 2 rfl) ?_
            refine lv_iload hx hb d_MO_swap_105 (lv_at hl 1 rfl) ?_
            refine lv_iload hx hb d_MO_swap_107 (lv_at hl 0 rfl) ?_
            refine lv_iload hx hb d_MO_swap_109 (lv_at hl 2 rfl) ?_
            refine lv_if_ne (tgt := 149) hx hb d_MO_swap_111 (by decide) (fun c111 => ?_) (fun c111 => ?_)
            · refine lv_iconst (v := 0) hx hb d_MO_swap_149 (by decide) ?_
              obtain ⟨cB150, hcB150, hoB150, hkB150⟩ := xw_recv (r := 15) (i := 0) hK hX (by decide) rfl rfl
              refine xc_s (rest := []) (x_invV (argsL := [.int (1 : Int32), .int (1 : Int32), .int (0 : Int32), .int (0 : Int32)]) hx hb hown (hts _ w_671) (hts _ w_673) (hts _ w_20) (x_code (hts _ w_674)) ⟨by decide, by decide⟩ hcB150 hoB150 hkB150 rfl rfl rfl d_MO_swap_150) (c_MO_throwing h0 σ (1 : Int32) (1 : Int32) (0 : Int32) (0 : Int32)) (xs_cw h0 hW0 m_674) (hts _ w_38) ⟨rfl, rfl, Nat.le_of_ble_eq_true rfl, Nat.le_of_ble_eq_true rfl⟩ (hl.1.trans hml.symm) (by rw [hb]; exact d_MO_swap_150) (Nat.le_of_ble_eq_true rfl) ⟨Nat.le_of_ble_eq_true rfl, Nat.le_of_ble_eq_true rfl⟩ hX hW0 hS (fun v150 σ150 H locs hM150 hX hS => ?_) (fun E x H1 locs1 hM => by cases hM)
              obtain ⟨ev150, es150⟩ := x_inl hM150
              subst es150
              subst ev150
              refine lv_if_eq (tgt := 157) hx hb d_MO_swap_153 (by decide) (fun c153 => ?_) (fun c153 => ?_)
              · exact absurd c153 (thr_n1 (by decide))
              · subst hR
                refine W.widen (k := 0) (n := 0) (by decide) (by decide) ?_; exact xs_v hx hb hr hlocks hX hS d_MO_swap_156
            · exact absurd c111 (by decide)
          · exact absurd c51 (by decide)
