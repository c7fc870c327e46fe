abbrev rm_LC_vehicle : Room := { frames := 8, cells := 5, slots := 30, locals := 125 }
def S_LC_vehicle (σ : XS) (k : Int32) (wb : Int32) (fr : Int32) (re : Int32) : (Int32 × XS) ⊕ String := (xbp (S_LC_requireKind σ k) fun _ => (xbp (S_LC_requireRange σ wb (1000 : Int32) (8000 : Int32)) fun _ => (xbp (S_LC_requireLimits σ fr re) fun _ => (if (σ.1 0 0 6) < (16 : Int32) then .inl ((((xuI (xuI (xuI (xuI (xuI σ 9 ((σ.1 0 0 6).toNatClampNeg) 5 k) 9 ((σ.1 0 0 6).toNatClampNeg) 6 wb) 9 ((σ.1 0 0 6).toNatClampNeg) 7 fr) 9 ((σ.1 0 0 6).toNatClampNeg) 8 re) 0 0 6 (((xuI (xuI (xuI (xuI σ 9 ((σ.1 0 0 6).toNatClampNeg) 5 k) 9 ((σ.1 0 0 6).toNatClampNeg) 6 wb) 9 ((σ.1 0 0 6).toNatClampNeg) 7 fr) 9 ((σ.1 0 0 6).toNatClampNeg) 8 re).1 0 0 6) + (1 : Int32))).1 0 0 6) - (1 : Int32)), (xuI (xuI (xuI (xuI (xuI σ 9 ((σ.1 0 0 6).toNatClampNeg) 5 k) 9 ((σ.1 0 0 6).toNatClampNeg) 6 wb) 9 ((σ.1 0 0 6).toNatClampNeg) 7 fr) 9 ((σ.1 0 0 6).toNatClampNeg) 8 re) 0 0 6 (((xuI (xuI (xuI (xuI σ 9 ((σ.1 0 0 6).toNatClampNeg) 5 k) 9 ((σ.1 0 0 6).toNatClampNeg) 6 wb) 9 ((σ.1 0 0 6).toNatClampNeg) 7 fr) 9 ((σ.1 0 0 6).toNatClampNeg) 8 re).1 0 0 6) + (1 : Int32)))) else .inr "java/lang/UnsupportedOperationException"))))
set_option maxHeartbeats 4000000 in
set_option maxRecDepth 100000 in
theorem c_LC_vehicle {l : Launch} {s0 : State} {A0 : Array Value} {D : va_G} {dA : Nat → ClassId} (h0 : XS0 l s0 A0 D dA) (σ : XS) (k : Int32) (wb : Int32) (fr : Int32) (re : Int32) (hok : XOk σ) : XMet l y_LC_vehicle [cw_LC_vehicle] rm_LC_vehicle (XP D dA s0 σ [.ref (xB s0 + XA 0 0), .int k, .int wb, .int fr, .int re]) (XQs D dA s0 xv_i (S_LC_vehicle σ k wb fr re)) 5 30 (xAm s0) := by
  refine XMet.ofW (cc := b_LC_vehicle) (maxL := 6) (ret := (some .int)) (by decide) rfl ?_
  intro p e s m args below meth c s₁ Bd hml hvA
  obtain ⟨rfl, hX, hO⟩ := hvA
  have hx := Bd.exec
  have hb := Bd.bytes
  have hr := Bd.returns
  have hown : s.vm.findClass "LoadChecks" = some m.cls := findClass_of_methodNamed Bd.named
  have hlocks := Bd.notSynchronized
  have hnt : c.exceptionTable.isEmpty = true := Bd.noHandlers (atoms_spec (ws := [cw_LC_vehicle]) Bd.pre _ List.mem_cons_self)
  have hW0 := hO.1
  have hts := xs_w (args := ([.ref (xB s0 + XA 0 0), .int k, .int wb, .int fr, .int re] : List Value).toArray) h0 hW0
  have hK := xs_K h0 hW0
  have hS := xo_S0 hO
  have hl := lv_entry ([.ref (xB s0 + XA 0 0), .int k, .int wb, .int fr, .int re]) (n := 6) (Nat.le_of_ble_eq_true rfl)
  rw [lg_entry_eq]
  generalize (lg_sl ([.ref (xB s0 + XA 0 0), .int k, .int wb, .int fr, .int re]) ++ List.replicate (6 - (lg_sl ([.ref (xB s0 + XA 0 0), .int k, .int wb, .int fr, .int re])).length) Slot.unset).toArray = ls at hl ⊢
  have hl : lv_has ls 6 [(0, .ref (xB s0 + XA 0 0)), (1, .int k), (2, .int wb), (3, .int fr), (4, .int re)] := hl
  generalize hR : S_LC_vehicle σ k wb fr re = res
  unfold S_LC_vehicle at hR
  refine lv_iload_n hx hb d_LC_vehicle_0 rfl (lv_at hl 1 rfl) ?_
  refine xc_p (rest := []) (x_invS (argsL := [.int k]) hx hb hown (hts _ w_171) (hts _ w_172) (hts _ w_34) (x_code (hts _ w_173)) ⟨by decide, by decide⟩ rfl rfl rfl d_LC_vehicle_1) (c_LC_requireKind h0 σ k) (xs_cw h0 hW0 m_173) (hts _ w_34) ⟨rfl, rfl, Nat.le_of_ble_eq_true rfl, Nat.le_of_ble_eq_true rfl⟩ (hl.1.trans hml.symm) (by rw [hb]; exact d_LC_vehicle_1) (Nat.le_of_ble_eq_true rfl) ⟨Nat.le_of_ble_eq_true rfl, Nat.le_of_ble_eq_true rfl⟩ hX ⟨hW0, xo_S hS⟩ (fun v1 hM1 => ?_) (fun E1 x1 H1 hM1 hE1 he1 => ?_)
  · rw [hM1] at hR
    dsimp only [xbp] at hR
    have f1 := f_kind hM1
    refine lv_iload_n hx hb d_LC_vehicle_4 rfl (lv_at hl 2 rfl) ?_
    refine lv_sipush (v := 1000) hx hb d_LC_vehicle_5 (by decide) ?_
    refine lv_sipush (v := 8000) hx hb d_LC_vehicle_8 (by decide) ?_
    refine xc_p (rest := []) (x_invS (argsL := [.int wb, .int (1000 : Int32), .int (8000 : Int32)]) hx hb hown (hts _ w_244) (hts _ w_245) (hts _ w_34) (x_code (hts _ w_246)) ⟨by decide, by decide⟩ rfl rfl rfl d_LC_vehicle_11) (c_LC_requireRange h0 σ wb (1000 : Int32) (8000 : Int32)) (xs_cw h0 hW0 m_246) (hts _ w_34) ⟨rfl, rfl, Nat.le_of_ble_eq_true rfl, Nat.le_of_ble_eq_true rfl⟩ (hl.1.trans hml.symm) (by rw [hb]; exact d_LC_vehicle_11) (Nat.le_of_ble_eq_true rfl) ⟨Nat.le_of_ble_eq_true rfl, Nat.le_of_ble_eq_true rfl⟩ hX ⟨hW0, xo_S hS⟩ (fun v11 hM11 => ?_) (fun E11 x11 H11 hM11 hE11 he11 => ?_)
    · rw [hM11] at hR
      dsimp only [xbp] at hR
      refine lv_iload_n hx hb d_LC_vehicle_14 rfl (lv_at hl 3 rfl) ?_
      refine lv_iload hx hb d_LC_vehicle_15 (lv_at hl 4 rfl) ?_
      refine xc_p (rest := []) (x_invS (argsL := [.int fr, .int re]) hx hb hown (hts _ w_263) (hts _ w_264) (hts _ w_34) (x_code (hts _ w_265)) ⟨by decide, by decide⟩ rfl rfl rfl d_LC_vehicle_17) (c_LC_requireLimits h0 σ fr re) (xs_cw h0 hW0 m_265) (hts _ w_34) ⟨rfl, rfl, Nat.le_of_ble_eq_true rfl, Nat.le_of_ble_eq_true rfl⟩ (hl.1.trans hml.symm) (by rw [hb]; exact d_LC_vehicle_17) (Nat.le_of_ble_eq_true rfl) ⟨Nat.le_of_ble_eq_true rfl, Nat.le_of_ble_eq_true rfl⟩ hX ⟨hW0, xo_S hS⟩ (fun v17 hM17 => ?_) (fun E17 x17 H17 hM17 hE17 he17 => ?_)
      · rw [hM17] at hR
        dsimp only [xbp] at hR
        refine lv_aload_n hx hb d_LC_vehicle_20 rfl (lv_at hl 0 rfl) ?_
        refine xw_get (C := R_LC) (T := F_LC) (N := 9) (r := 0) (i := 0) hx hb hts hi_LC hown hK hX (by decide) rfl rfl 6 (by decide) (hts _ w_139) rfl rfl d_LC_vehicle_21 ?_
        refine lv_bipush (v := 16) hx hb d_LC_vehicle_24 (by decide) ?_
        refine lv_icmp_lt (tgt := 39) hx hb d_LC_vehicle_26 (by decide) (fun c26 => ?_) (fun c26 => ?_)
        · rw [if_pos c26] at hR
          refine lv_aload_n hx hb d_LC_vehicle_39 rfl (lv_at hl 0 rfl) ?_
          refine xw_get (C := R_LC) (T := F_LC) (N := 9) (r := 0) (i := 0) hx hb hts hi_LC hown hK hX (by decide) rfl rfl 4 (by decide) (hts _ w_137) rfl rfl d_LC_vehicle_40 ?_
          refine lv_aload_n hx hb d_LC_vehicle_43 rfl (lv_at hl 0 rfl) ?_
          refine xw_get (C := R_LC) (T := F_LC) (N := 9) (r := 0) (i := 0) hx hb hts hi_LC hown hK hX (by decide) rfl rfl 6 (by decide) (hts _ w_139) rfl rfl d_LC_vehicle_44 ?_
          refine xw_aald (r := 6) (i := 0) hx hb hK hX (by decide) 4 rfl rfl rfl (j := (σ.1 0 0 6)) (o_vcin hok c26) rfl d_LC_vehicle_47 ?_
          refine lv_astore (lv' := [(5, .ref (xB s0 + XA 9 ((σ.1 0 0 6).toNatClampNeg))), (0, .ref (xB s0 + XA 0 0)), (1, .int k), (2, .int wb), (3, .int fr), (4, .int re)]) hx hb d_LC_vehicle_48 hl (by decide) rfl (fun ls hl => ?_)
          refine lv_aload hx hb d_LC_vehicle_50 (lv_at hl 0 rfl) ?_
          refine lv_iload_n hx hb d_LC_vehicle_52 rfl (lv_at hl 2 rfl) ?_
          refine xw_putN (C := R_VE) (T := F_VE) (N := 13) (r := 9) (i := (σ.1 0 0 6).toNatClampNeg) (ent' := XE dA (xB s0) (xuI σ 9 ((σ.1 0 0 6).toNatClampNeg) 5 k)) hx hb hts hi_VE t_VE t_VE_ok n_VE hown hK xInj hX hS (xA_in _ _ _) (vp_lt (o_vcin hok c26)) rfl rfl 5 (by decide) (xs_N h0 hW0 m_92) rfl rfl rfl rfl (Nat.le_of_ble_eq_true rfl) ((xe_uI dA (xB s0) σ 9 ((σ.1 0 0 6).toNatClampNeg) 5 k).trans rfl) (xe_oI dA (xB s0) σ 9 ((σ.1 0 0 6).toNatClampNeg) 5 k) d_LC_vehicle_53 (fun H locs hX hS => ?_)
          refine lv_aload hx hb d_LC_vehicle_56 (lv_at hl 0 rfl) ?_
          refine lv_iload_n hx hb d_LC_vehicle_58 rfl (lv_at hl 3 rfl) ?_
          refine xw_putN (C := R_VE) (T := F_VE) (N := 13) (r := 9) (i := (σ.1 0 0 6).toNatClampNeg) (ent' := XE dA (xB s0) (xuI (xuI σ 9 ((σ.1 0 0 6).toNatClampNeg) 5 k) 9 ((σ.1 0 0 6).toNatClampNeg) 6 wb)) hx hb hts hi_VE t_VE t_VE_ok n_VE hown hK xInj hX hS (xA_in _ _ _) (vp_lt (o_vcin hok c26)) rfl rfl 6 (by decide) (xs_N h0 hW0 m_94) rfl rfl rfl rfl (Nat.le_of_ble_eq_true rfl) ((xe_uI dA (xB s0) (xuI σ 9 ((σ.1 0 0 6).toNatClampNeg) 5 k) 9 ((σ.1 0 0 6).toNatClampNeg) 6 wb).trans rfl) (xe_oI dA (xB s0) (xuI σ 9 ((σ.1 0 0 6).toNatClampNeg) 5 k) 9 ((σ.1 0 0 6).toNatClampNeg) 6 wb) d_LC_vehicle_59 (fun H locs hX hS => ?_)
          refine lv_aload hx hb d_LC_vehicle_62 (lv_at hl 0 rfl) ?_
          refine lv_iload_n hx hb d_LC_vehicle_64 rfl (lv_at hl 4 rfl) ?_
          refine xw_putN (C := R_VE) (T := F_VE) (N := 13) (r := 9) (i := (σ.1 0 0 6).toNatClampNeg) (ent' := XE dA (xB s0) (xuI (xuI (xuI σ 9 ((σ.1 0 0 6).toNatClampNeg) 5 k) 9 ((σ.1 0 0 6).toNatClampNeg) 6 wb) 9 ((σ.1 0 0 6).toNatClampNeg) 7 fr)) hx hb hts hi_VE t_VE t_VE_ok n_VE hown hK xInj hX hS (xA_in _ _ _) (vp_lt (o_vcin hok c26)) rfl rfl 7 (by decide) (xs_N h0 hW0 m_95) rfl rfl rfl rfl (Nat.le_of_ble_eq_true rfl) ((xe_uI dA (xB s0) (xuI (xuI σ 9 ((σ.1 0 0 6).toNatClampNeg) 5 k) 9 ((σ.1 0 0 6).toNatClampNeg) 6 wb) 9 ((σ.1 0 0 6).toNatClampNeg) 7 fr).trans rfl) (xe_oI dA (xB s0) (xuI (xuI σ 9 ((σ.1 0 0 6).toNatClampNeg) 5 k) 9 ((σ.1 0 0 6).toNatClampNeg) 6 wb) 9 ((σ.1 0 0 6).toNatClampNeg) 7 fr) d_LC_vehicle_65 (fun H locs hX hS => ?_)
          refine lv_aload hx hb d_LC_vehicle_68 (lv_at hl 0 rfl) ?_
          refine lv_iload hx hb d_LC_vehicle_70 (lv_at hl 5 rfl) ?_
          refine xw_putN (C := R_VE) (T := F_VE) (N := 13) (r := 9) (i := (σ.1 0 0 6).toNatClampNeg) (ent' := XE dA (xB s0) (xuI (xuI (xuI (xuI σ 9 ((σ.1 0 0 6).toNatClampNeg) 5 k) 9 ((σ.1 0 0 6).toNatClampNeg) 6 wb) 9 ((σ.1 0 0 6).toNatClampNeg) 7 fr) 9 ((σ.1 0 0 6).toNatClampNeg) 8 re)) hx hb hts hi_VE t_VE t_VE_ok n_VE hown hK xInj hX hS (xA_in _ _ _) (vp_lt (o_vcin hok c26)) rfl rfl 8 (by decide) (xs_N h0 hW0 m_97) rfl rfl rfl rfl (Nat.le_of_ble_eq_true rfl) ((xe_uI dA (xB s0) (xuI (xuI (xuI σ 9 ((σ.1 0 0 6).toNatClampNeg) 5 k) 9 ((σ.1 0 0 6).toNatClampNeg) 6 wb) 9 ((σ.1 0 0 6).toNatClampNeg) 7 fr) 9 ((σ.1 0 0 6).toNatClampNeg) 8 re).trans rfl) (xe_oI dA (xB s0) (xuI (xuI (xuI σ 9 ((σ.1 0 0 6).toNatClampNeg) 5 k) 9 ((σ.1 0 0 6).toNatClampNeg) 6 wb) 9 ((σ.1 0 0 6).toNatClampNeg) 7 fr) 9 ((σ.1 0 0 6).toNatClampNeg) 8 re) d_LC_vehicle_72 (fun H locs hX hS => ?_)
          refine lv_aload_n hx hb d_LC_vehicle_75 rfl (lv_at hl 1 rfl) ?_
          refine lv_dup hx hb d_LC_vehicle_76 rfl ?_
          refine xw_get (C := R_LC) (T := F_LC) (N := 9) (r := 0) (i := 0) hx hb hts hi_LC hown hK hX (by decide) rfl rfl 6 (by decide) (hts _ w_139) rfl rfl d_LC_vehicle_77 ?_
          refine lv_iconst (v := 1) hx hb d_LC_vehicle_80 (by decide) ?_
          refine lv_iadd hx hb d_LC_vehicle_81 ?_
          refine xw_put (C := R_LC) (T := F_LC) (N := 9) (r := 0) (i := 0) (ent' := XE dA (xB s0) (xuI (xuI (xuI (xuI (xuI σ 9 ((σ.1 0 0 6).toNatClampNeg) 5 k) 9 ((σ.1 0 0 6).toNatClampNeg) 6 wb) 9 ((σ.1 0 0 6).toNatClampNeg) 7 fr) 9 ((σ.1 0 0 6).toNatClampNeg) 8 re) 0 0 6 (((xuI (xuI (xuI (xuI σ 9 ((σ.1 0 0 6).toNatClampNeg) 5 k) 9 ((σ.1 0 0 6).toNatClampNeg) 6 wb) 9 ((σ.1 0 0 6).toNatClampNeg) 7 fr) 9 ((σ.1 0 0 6).toNatClampNeg) 8 re).1 0 0 6) + (1 : Int32)))) hx hb hts hi_LC t_LC t_LC_ok n_LC hown hK xInj hX hS (xA_in _ _ _) (by decide) rfl rfl 6 (by decide) (hts _ w_139) rfl rfl rfl rfl (Nat.le_of_ble_eq_true rfl) ((xe_uI dA (xB s0) (xuI (xuI (xuI (xuI σ 9 ((σ.1 0 0 6).toNatClampNeg) 5 k) 9 ((σ.1 0 0 6).toNatClampNeg) 6 wb) 9 ((σ.1 0 0 6).toNatClampNeg) 7 fr) 9 ((σ.1 0 0 6).toNatClampNeg) 8 re) 0 0 6 (((xuI (xuI (xuI (xuI σ 9 ((σ.1 0 0 6).toNatClampNeg) 5 k) 9 ((σ.1 0 0 6).toNatClampNeg) 6 wb) 9 ((σ.1 0 0 6).toNatClampNeg) 7 fr) 9 ((σ.1 0 0 6).toNatClampNeg) 8 re).1 0 0 6) + (1 : Int32))).trans rfl) (xe_oI dA (xB s0) (xuI (xuI (xuI (xuI σ 9 ((σ.1 0 0 6).toNatClampNeg) 5 k) 9 ((σ.1 0 0 6).toNatClampNeg) 6 wb) 9 ((σ.1 0 0 6).toNatClampNeg) 7 fr) 9 ((σ.1 0 0 6).toNatClampNeg) 8 re) 0 0 6 (((xuI (xuI (xuI (xuI σ 9 ((σ.1 0 0 6).toNatClampNeg) 5 k) 9 ((σ.1 0 0 6).toNatClampNeg) 6 wb) 9 ((σ.1 0 0 6).toNatClampNeg) 7 fr) 9 ((σ.1 0 0 6).toNatClampNeg) 8 re).1 0 0 6) + (1 : Int32))) d_LC_vehicle_82 (fun H locs hX hS => ?_)
          refine lv_aload_n hx hb d_LC_vehicle_85 rfl (lv_at hl 1 rfl) ?_
          refine xw_get (C := R_LC) (T := F_LC) (N := 9) (r := 0) (i := 0) hx hb hts hi_LC hown hK hX (by decide) rfl rfl 6 (by decide) (hts _ w_139) rfl rfl d_LC_vehicle_86 ?_
          refine lv_iconst (v := 1) hx hb d_LC_vehicle_89 (by decide) ?_
          refine lv_isub hx hb d_LC_vehicle_90 ?_
          subst hR
          refine W.widen (k := 5) (n := 30) (by decide) (by decide) ?_; exact xs_i hx hb hr hlocks hX hS d_LC_vehicle_91
        · rw [if_neg c26] at hR
          obtain ⟨qs, hqs⟩ := xs_str h0 hW0 (own := "LoadChecks") (k := 56) (tx := "no room for one more vehicle") (by decide +kernel); subst hR; refine W.widen (k := 4) (n := 24) (by decide) (by decide) ?_; exact x_throw hx hb h0.1 hown hlocks hnt (hl.1.trans hml.symm) (hts _ w_267) (hts _ w_44) hqs (x_own hO rfl (oa_UOE h0)) (by decide +kernel) (by decide +kernel) d_LC_vehicle_29 d_LC_vehicle_32 d_LC_vehicle_33 d_LC_vehicle_35 d_LC_vehicle_38 (Nat.le_of_ble_eq_true rfl) (Nat.le_of_ble_eq_true rfl) (Nat.le_of_ble_eq_true rfl) (Nat.le_of_ble_eq_true rfl) (fun x t h1 h2 => Or.inr ⟨_, x, rfl, rfl, h1, h2⟩)
      · rw [hM17] at hR
        dsimp only [xbp] at hR
        subst hR
        refine xt_wid (k := 5) (n := 30) (by decide) (by decide) ?_
        exact xt_s hlocks hnt hE17 he17 (fun q h => by cases h)
    · rw [hM11] at hR
      dsimp only [xbp] at hR
      subst hR
      refine xt_wid (k := 5) (n := 30) (by decide) (by decide) ?_
      exact xt_s hlocks hnt hE11 he11 (fun q h => by cases h)
  · rw [hM1] at hR
    dsimp only [xbp] at hR
    subst hR
    refine xt_wid (k := 5) (n := 30) (by decide) (by decide) ?_
    exact xt_s hlocks hnt hE1 he1 (fun q h => by cases h)

abbrev rm_LC_limits : Room := { frames := 8, cells := 3, slots := 18, locals := 125 }
def S_LC_limits (σ : XS) (v : Int32) (fr : Int32) (re : Int32) : (Unit × XS) ⊕ String := (xbp (S_LC_knownVehicle σ v) fun v2 => (xbp (S_LC_requireLimits σ fr re) fun _ => .inl ((), (xuI (xuI σ 9 v2 7 fr) 9 v2 8 re))))
set_option maxHeartbeats 4000000 in
set_option maxRecDepth 100000 in
theorem c_LC_limits {l : Launch} {s0 : State} {A0 : Array Value} {D : va_G} {dA : Nat → ClassId} (h0 : XS0 l s0 A0 D dA) (σ : XS) (v : Int32) (fr : Int32) (re : Int32) (hok : XOk σ) : XMet l y_LC_limits [cw_LC_limits] rm_LC_limits (XP D dA s0 σ [.ref (xB s0 + XA 0 0), .int v, .int fr, .int re]) (XQs D dA s0 xv_v (S_LC_limits σ v fr re)) 3 18 (xAm s0) := by
  refine XMet.ofW (cc := b_LC_limits) (maxL := 5) (ret := none) (by decide) rfl ?_
  intro p e s m args below meth c s₁ Bd hml hvA
  obtain ⟨rfl, hX, hO⟩ := hvA
  have hx := Bd.exec
  have hb := Bd.bytes
  have hr := Bd.returns
  have hown : s.vm.findClass "LoadChecks" = some m.cls := findClass_of_methodNamed Bd.named
  have hlocks := Bd.notSynchronized
  have hnt : c.exceptionTable.isEmpty = true := Bd.noHandlers (atoms_spec (ws := [cw_LC_limits]) Bd.pre _ List.mem_cons_self)
  have hW0 := hO.1
  have hts := xs_w (args := ([.ref (xB s0 + XA 0 0), .int v, .int fr, .int re] : List Value).toArray) h0 hW0
  have hK := xs_K h0 hW0
  have hS := xo_S0 hO
  have hl := lv_entry ([.ref (xB s0 + XA 0 0), .int v, .int fr, .int re]) (n := 5) (Nat.le_of_ble_eq_true rfl)
  rw [lg_entry_eq]
  generalize (lg_sl ([.ref (xB s0 + XA 0 0), .int v, .int fr, .int re]) ++ List.replicate (5 - (lg_sl ([.ref (xB s0 + XA 0 0), .int v, .int fr, .int re])).length) Slot.unset).toArray = ls at hl ⊢
  have hl : lv_has ls 5 [(0, .ref (xB s0 + XA 0 0)), (1, .int v), (2, .int fr), (3, .int re)] := hl
  generalize hR : S_LC_limits σ v fr re = res
  unfold S_LC_limits at hR
  refine lv_aload_n hx hb d_LC_limits_0 rfl (lv_at hl 0 rfl) ?_
  refine lv_iload_n hx hb d_LC_limits_1 rfl (lv_at hl 1 rfl) ?_
  obtain ⟨cB2, hcB2, hoB2, hkB2⟩ := xw_recv (r := 0) (i := 0) hK hX (by decide) rfl rfl
  refine xc_p (rest := []) (x_invV (argsL := [.int v]) hx hb hown (hts _ w_290) (hts _ w_292) (hts _ w_1) (x_code (hts _ w_293)) ⟨by decide, by decide⟩ hcB2 hoB2 hkB2 rfl rfl rfl d_LC_limits_2) (c_LC_knownVehicle h0 σ v hok) (xs_cw h0 hW0 m_293) (hts _ w_34) ⟨rfl, rfl, Nat.le_of_ble_eq_true rfl, Nat.le_of_ble_eq_true rfl⟩ (hl.1.trans hml.symm) (by rw [hb]; exact d_LC_limits_2) (Nat.le_of_ble_eq_true rfl) ⟨Nat.le_of_ble_eq_true rfl, Nat.le_of_ble_eq_true rfl⟩ hX ⟨hW0, xo_S hS⟩ (fun v2 hM2 => ?_) (fun E2 x2 H2 hM2 hE2 he2 => ?_)
  · rw [hM2] at hR
    dsimp only [xbp] at hR
    have f2 := f_known hok hM2
    refine lv_astore (lv' := [(4, .ref (xB s0 + XA 9 v2)), (0, .ref (xB s0 + XA 0 0)), (1, .int v), (2, .int fr), (3, .int re)]) hx hb d_LC_limits_5 hl (by decide) rfl (fun ls hl => ?_)
    refine lv_iload_n hx hb d_LC_limits_7 rfl (lv_at hl 3 rfl) ?_
    refine lv_iload_n hx hb d_LC_limits_8 rfl (lv_at hl 4 rfl) ?_
    refine xc_p (rest := []) (x_invS (argsL := [.int fr, .int re]) hx hb hown (hts _ w_263) (hts _ w_264) (hts _ w_34) (x_code (hts _ w_265)) ⟨by decide, by decide⟩ rfl rfl rfl d_LC_limits_9) (c_LC_requireLimits h0 σ fr re) (xs_cw h0 hW0 m_265) (hts _ w_34) ⟨rfl, rfl, Nat.le_of_ble_eq_true rfl, Nat.le_of_ble_eq_true rfl⟩ (hl.1.trans hml.symm) (by rw [hb]; exact d_LC_limits_9) (Nat.le_of_ble_eq_true rfl) ⟨Nat.le_of_ble_eq_true rfl, Nat.le_of_ble_eq_true rfl⟩ hX ⟨hW0, xo_S hS⟩ (fun v9 hM9 => ?_) (fun E9 x9 H9 hM9 hE9 he9 => ?_)
    · rw [hM9] at hR
      dsimp only [xbp] at hR
      refine lv_aload hx hb d_LC_limits_12 (lv_at hl 0 rfl) ?_
      refine lv_iload_n hx hb d_LC_limits_14 rfl (lv_at hl 3 rfl) ?_
      refine xw_putN (C := R_VE) (T := F_VE) (N := 13) (r := 9) (i := v2) (ent' := XE dA (xB s0) (xuI σ 9 v2 7 fr)) hx hb hts hi_VE t_VE t_VE_ok n_VE hown hK xInj hX hS (xA_in _ _ _) f2 rfl rfl 7 (by decide) (xs_N h0 hW0 m_95) rfl rfl rfl rfl (Nat.le_of_ble_eq_true rfl) ((xe_uI dA (xB s0) σ 9 v2 7 fr).trans rfl) (xe_oI dA (xB s0) σ 9 v2 7 fr) d_LC_limits_15 (fun H locs hX hS => ?_)
      refine lv_aload hx hb d_LC_limits_18 (lv_at hl 0 rfl) ?_
      refine lv_iload_n hx hb d_LC_limits_20 rfl (lv_at hl 4 rfl) ?_
      refine xw_putN (C := R_VE) (T := F_VE) (N := 13) (r := 9) (i := v2) (ent' := XE dA (xB s0) (xuI (xuI σ 9 v2 7 fr) 9 v2 8 re)) hx hb hts hi_VE t_VE t_VE_ok n_VE hown hK xInj hX hS (xA_in _ _ _) f2 rfl rfl 8 (by decide) (xs_N h0 hW0 m_97) rfl rfl rfl rfl (Nat.le_of_ble_eq_true rfl) ((xe_uI dA (xB s0) (xuI σ 9 v2 7 fr) 9 v2 8 re).trans rfl) (xe_oI dA (xB s0) (xuI σ 9 v2 7 fr) 9 v2 8 re) d_LC_limits_21 (fun H locs hX hS => ?_)
      subst hR
      refine W.widen (k := 3) (n := 18) (by decide) (by decide) ?_; exact xs_v hx hb hr hlocks hX hS d_LC_limits_24
    · rw [hM9] at hR
      dsimp only [xbp] at hR
      subst hR
      refine xt_wid (k := 3) (n := 18) (by decide) (by decide) ?_
      exact xt_s hlocks hnt hE9 he9 (fun q h => by cases h)
  · rw [hM2] at hR
    dsimp only [xbp] at hR
    subst hR
    refine xt_wid (k := 3) (n := 18) (by decide) (by decide) ?_
    exact xt_s hlocks hnt hE2 he2 (fun q h => by cases h)

abbrev rm_LC_place : Room := { frames := 7, cells := 4, slots := 24, locals := 104 }
def S_LC_place (σ : XS) (v : Int32) (cup : Int32) (mm : Int32) : (Unit × XS) ⊕ String := (xbp (S_LC_knownVehicle σ v) fun v2 => (xbp (S_LC_requireCupboard σ cup) fun _ => (xbp (S_LC_requireRange σ mm (-2000 : Int32) (10000 : Int32)) fun _ => (if (S_VE_isEmpty σ v2 cup) = 0 then .inr "java/lang/IllegalStateException" else .inl ((), (xuI σ 10 v2 cup.toNatClampNeg mm))))))
set_option maxHeartbeats 4000000 in
set_option maxRecDepth 100000 in
theorem c_LC_place {l : Launch} {s0 : State} {A0 : Array Value} {D : va_G} {dA : Nat → ClassId} (h0 : XS0 l s0 A0 D dA) (σ : XS) (v : Int32) (cup : Int32) (mm : Int32) (hok : XOk σ) : XMet l y_LC_place [cw_LC_place] rm_LC_place (XP D dA s0 σ [.ref (xB s0 + XA 0 0), .int v, .int cup, .int mm]) (XQs D dA s0 xv_v (S_LC_place σ v cup mm)) 4 24 (xAm s0) := by
  refine XMet.ofW (cc := b_LC_place) (maxL := 5) (ret := none) (by decide) rfl ?_
  intro p e s m args below meth c s₁ Bd hml hvA
  obtain ⟨rfl, hX, hO⟩ := hvA
  have hx := Bd.exec
  have hb := Bd.bytes
  have hr := Bd.returns
  have hown : s.vm.findClass "LoadChecks" = some m.cls := findClass_of_methodNamed Bd.named
  have hlocks := Bd.notSynchronized
  have hnt : c.exceptionTable.isEmpty = true := Bd.noHandlers (atoms_spec (ws := [cw_LC_place]) Bd.pre _ List.mem_cons_self)
  have hW0 := hO.1
  have hts := xs_w (args := ([.ref (xB s0 + XA 0 0), .int v, .int cup, .int mm] : List Value).toArray) h0 hW0
  have hK := xs_K h0 hW0
  have hS := xo_S0 hO
  have hl := lv_entry ([.ref (xB s0 + XA 0 0), .int v, .int cup, .int mm]) (n := 5) (Nat.le_of_ble_eq_true rfl)
  rw [lg_entry_eq]
  generalize (lg_sl ([.ref (xB s0 + XA 0 0), .int v, .int cup, .int mm]) ++ List.replicate (5 - (lg_sl ([.ref (xB s0 + XA 0 0), .int v, .int cup, .int mm])).length) Slot.unset).toArray = ls at hl ⊢
  have hl : lv_has ls 5 [(0, .ref (xB s0 + XA 0 0)), (1, .int v), (2, .int cup), (3, .int mm)] := hl
  generalize hR : S_LC_place σ v cup mm = res
  unfold S_LC_place at hR
  refine lv_aload_n hx hb d_LC_place_0 rfl (lv_at hl 0 rfl) ?_
  refine lv_iload_n hx hb d_LC_place_1 rfl (lv_at hl 1 rfl) ?_
  obtain ⟨cB2, hcB2, hoB2, hkB2⟩ := xw_recv (r := 0) (i := 0) hK hX (by decide) rfl rfl
  refine xc_p (rest := []) (x_invV (argsL := [.int v]) hx hb hown (hts _ w_290) (hts _ w_292) (hts _ w_1) (x_code (hts _ w_293)) ⟨by decide, by decide⟩ hcB2 hoB2 hkB2 rfl rfl rfl d_LC_place_2) (c_LC_knownVehicle h0 σ v hok) (xs_cw h0 hW0 m_293) (hts _ w_34) ⟨rfl, rfl, Nat.le_of_ble_eq_true rfl, Nat.le_of_ble_eq_true rfl⟩ (hl.1.trans hml.symm) (by rw [hb]; exact d_LC_place_2) (Nat.le_of_ble_eq_true rfl) ⟨Nat.le_of_ble_eq_true rfl, Nat.le_of_ble_eq_true rfl⟩ hX ⟨hW0, xo_S hS⟩ (fun v2 hM2 => ?_) (fun E2 x2 H2 hM2 hE2 he2 => ?_)
  · rw [hM2] at hR
    dsimp only [xbp] at hR
    have f2 := f_known hok hM2
    refine lv_astore (lv' := [(4, .ref (xB s0 + XA 9 v2)), (0, .ref (xB s0 + XA 0 0)), (1, .int v), (2, .int cup), (3, .int mm)]) hx hb d_LC_place_5 hl (by decide) rfl (fun ls hl => ?_)
    refine lv_iload_n hx hb d_LC_place_7 rfl (lv_at hl 3 rfl) ?_
    refine xc_p (rest := []) (x_invS (argsL := [.int cup]) hx hb hown (hts _ w_303) (hts _ w_304) (hts _ w_34) (x_code (hts _ w_305)) ⟨by decide, by decide⟩ rfl rfl rfl d_LC_place_8) (c_LC_requireCupboard h0 σ cup) (xs_cw h0 hW0 m_305) (hts _ w_34) ⟨rfl, rfl, Nat.le_of_ble_eq_true rfl, Nat.le_of_ble_eq_true rfl⟩ (hl.1.trans hml.symm) (by rw [hb]; exact d_LC_place_8) (Nat.le_of_ble_eq_true rfl) ⟨Nat.le_of_ble_eq_true rfl, Nat.le_of_ble_eq_true rfl⟩ hX ⟨hW0, xo_S hS⟩ (fun v8 hM8 => ?_) (fun E8 x8 H8 hM8 hE8 he8 => ?_)
    · rw [hM8] at hR
      dsimp only [xbp] at hR
      have f8 := f_cup hM8
      refine lv_iload_n hx hb d_LC_place_11 rfl (lv_at hl 4 rfl) ?_
      refine lv_sipush (v := -2000) hx hb d_LC_place_12 (by decide) ?_
      refine lv_sipush (v := 10000) hx hb d_LC_place_15 (by decide) ?_
      refine xc_p (rest := []) (x_invS (argsL := [.int mm, .int (-2000 : Int32), .int (10000 : Int32)]) hx hb hown (hts _ w_244) (hts _ w_245) (hts _ w_34) (x_code (hts _ w_246)) ⟨by decide, by decide⟩ rfl rfl rfl d_LC_place_18) (c_LC_requireRange h0 σ mm (-2000 : Int32) (10000 : Int32)) (xs_cw h0 hW0 m_246) (hts _ w_34) ⟨rfl, rfl, Nat.le_of_ble_eq_true rfl, Nat.le_of_ble_eq_true rfl⟩ (hl.1.trans hml.symm) (by rw [hb]; exact d_LC_place_18) (Nat.le_of_ble_eq_true rfl) ⟨Nat.le_of_ble_eq_true rfl, Nat.le_of_ble_eq_true rfl⟩ hX ⟨hW0, xo_S hS⟩ (fun v18 hM18 => ?_) (fun E18 x18 H18 hM18 hE18 he18 => ?_)
      · rw [hM18] at hR
        dsimp only [xbp] at hR
        refine lv_aload hx hb d_LC_place_21 (lv_at hl 0 rfl) ?_
        refine lv_iload_n hx hb d_LC_place_23 rfl (lv_at hl 3 rfl) ?_
        obtain ⟨cB24, hcB24, hoB24, hkB24⟩ := xw_recv (r := 9) (i := v2) hK hX f2 rfl rfl
        refine xc_f (rest := []) (x_invVN (argsL := [.int cup]) hx hb hown (xs_M h0 hW0 m_307) (hts _ w_309) (hts _ w_2) (x_code (hts _ w_310)) ⟨by decide, by decide⟩ hcB24 hoB24 hkB24 rfl rfl rfl d_LC_place_24) (c_VE_isEmpty h0 σ v2 cup f2 f8) (xs_cw h0 hW0 m_310) (hts _ w_36) ⟨rfl, rfl, Nat.le_of_ble_eq_true rfl, Nat.le_of_ble_eq_true rfl⟩ (hl.1.trans hml.symm) (by rw [hb]; exact d_LC_place_24) (Nat.le_of_ble_eq_true rfl) ⟨Nat.le_of_ble_eq_true rfl, Nat.le_of_ble_eq_true rfl⟩ hX ⟨hW0, xo_S hS⟩ ?_
        refine lv_if_ne (tgt := 40) hx hb d_LC_place_27 (by decide) (fun c27 => ?_) (fun c27 => ?_)
        · rw [if_neg c27] at hR
          refine lv_aload hx hb d_LC_place_40 (lv_at hl 0 rfl) ?_
          refine xw_getN (C := R_VE) (T := F_VE) (N := 13) (r := 9) (i := v2) hx hb hts hi_VE hown hK hX f2 rfl rfl 0 (by decide) (xs_N h0 hW0 m_83) rfl rfl d_LC_place_42 ?_
          refine lv_iload_n hx hb d_LC_place_45 rfl (lv_at hl 3 rfl) ?_
          refine lv_iload_n hx hb d_LC_place_46 rfl (lv_at hl 4 rfl) ?_
          refine xw_iast (r := 10) (i := v2) (ent' := XE dA (xB s0) (xuI σ 10 v2 cup.toNatClampNeg mm)) hx hb hK xInj hX hS (xA_in _ _ _) f2 0 rfl rfl (j := cup) f8 ((xe_uI dA (xB s0) σ 10 v2 cup.toNatClampNeg mm).trans rfl) (xe_oI dA (xB s0) σ 10 v2 cup.toNatClampNeg mm) d_LC_place_47 (fun H locs hX hS => ?_)
          subst hR
          refine W.widen (k := 4) (n := 24) (by decide) (by decide) ?_; exact xs_v hx hb hr hlocks hX hS d_LC_place_48
        · rw [if_pos c27] at hR
          obtain ⟨qs, hqs⟩ := xs_str h0 hW0 (own := "LoadChecks") (k := 86) (tx := "the cupboard is not empty") (by decide +kernel); subst hR; refine W.widen (k := 3) (n := 18) (by decide) (by decide) ?_; exact x_throw hx hb h0.1 hown hlocks hnt (hl.1.trans hml.symm) (hts _ w_314) (hts _ w_45) hqs (x_own hO rfl (oa_ISE h0)) (by decide +kernel) (by decide +kernel) d_LC_place_30 d_LC_place_33 d_LC_place_34 d_LC_place_36 d_LC_place_39 (Nat.le_of_ble_eq_true rfl) (Nat.le_of_ble_eq_true rfl) (Nat.le_of_ble_eq_true rfl) (Nat.le_of_ble_eq_true rfl) (fun x t h1 h2 => Or.inr ⟨_, x, rfl, rfl, h1, h2⟩)
      · rw [hM18] at hR
        dsimp only [xbp] at hR
        subst hR
        refine xt_wid (k := 4) (n := 24) (by decide) (by decide) ?_
        exact xt_s hlocks hnt hE18 he18 (fun q h => by cases h)
    · rw [hM8] at hR
      dsimp only [xbp] at hR
      subst hR
      refine xt_wid (k := 4) (n := 24) (by decide) (by decide) ?_
      exact xt_s hlocks hnt hE8 he8 (fun q h => by cases h)
  · rw [hM2] at hR
    dsimp only [xbp] at hR
    subst hR
    refine xt_wid (k := 4) (n := 24) (by decide) (by decide) ?_
    exact xt_s hlocks hnt hE2 he2 (fun q h => by cases h)

abbrev rm_LC_item : Room := { frames := 7, cells := 4, slots := 24, locals := 104 }
def S_LC_item (σ : XS) (it : Int32) (gr : Int32) (le : Int32) : (Unit × XS) ⊕ String := (xbp (S_LC_requireItem σ it) fun _ => (xbp (S_LC_requireRange σ gr (0 : Int32) (500000 : Int32)) fun _ => (xbp (S_LC_requireRange σ le (0 : Int32) (100 : Int32)) fun _ => (if gr = (σ.1 1 0 it.toNatClampNeg) then .inl ((), (xuI (xuI σ 1 0 it.toNatClampNeg gr) 2 0 it.toNatClampNeg le)) else (if (S_LC_isAnywhere σ it) = 0 then .inl ((), (xuI (xuI σ 1 0 it.toNatClampNeg gr) 2 0 it.toNatClampNeg le)) else .inr "java/lang/IllegalStateException")))))
set_option maxHeartbeats 4000000 in
set_option maxRecDepth 100000 in
theorem c_LC_item {l : Launch} {s0 : State} {A0 : Array Value} {D : va_G} {dA : Nat → ClassId} (h0 : XS0 l s0 A0 D dA) (σ : XS) (it : Int32) (gr : Int32) (le : Int32) (hok : XOk σ) : XMet l y_LC_item [cw_LC_item] rm_LC_item (XP D dA s0 σ [.ref (xB s0 + XA 0 0), .int it, .int gr, .int le]) (XQs D dA s0 xv_v (S_LC_item σ it gr le)) 4 24 (xAm s0) := by
  refine XMet.ofW (cc := b_LC_item) (maxL := 4) (ret := none) (by decide) rfl ?_
  intro p e s m args below meth c s₁ Bd hml hvA
  obtain ⟨rfl, hX, hO⟩ := hvA
  have hx := Bd.exec
  have hb := Bd.bytes
  have hr := Bd.returns
  have hown : s.vm.findClass "LoadChecks" = some m.cls := findClass_of_methodNamed Bd.named
  have hlocks := Bd.notSynchronized
  have hnt : c.exceptionTable.isEmpty = true := Bd.noHandlers (atoms_spec (ws := [cw_LC_item]) Bd.pre _ List.mem_cons_self)
  have hW0 := hO.1
  have hts := xs_w (args := ([.ref (xB s0 + XA 0 0), .int it, .int gr, .int le] : List Value).toArray) h0 hW0
  have hK := xs_K h0 hW0
  have hS := xo_S0 hO
  have hl := lv_entry ([.ref (xB s0 + XA 0 0), .int it, .int gr, .int le]) (n := 4) (Nat.le_of_ble_eq_true rfl)
  rw [lg_entry_eq]
  generalize (lg_sl ([.ref (xB s0 + XA 0 0), .int it, .int gr, .int le]) ++ List.replicate (4 - (lg_sl ([.ref (xB s0 + XA 0 0), .int it, .int gr, .int le])).length) Slot.unset).toArray = ls at hl ⊢
  have hl : lv_has ls 4 [(0, .ref (xB s0 + XA 0 0)), (1, .int it), (2, .int gr), (3, .int le)] := hl
  generalize hR : S_LC_item σ it gr le = res
  unfold S_LC_item at hR
  refine lv_iload_n hx hb d_LC_item_0 rfl (lv_at hl 1 rfl) ?_
  refine xc_p (rest := []) (x_invS (argsL := [.int it]) hx hb hown (hts _ w_337) (hts _ w_338) (hts _ w_34) (x_code (hts _ w_339)) ⟨by decide, by decide⟩ rfl rfl rfl d_LC_item_1) (c_LC_requireItem h0 σ it) (xs_cw h0 hW0 m_339) (hts _ w_34) ⟨rfl, rfl, Nat.le_of_ble_eq_true rfl, Nat.le_of_ble_eq_true rfl⟩ (hl.1.trans hml.symm) (by rw [hb]; exact d_LC_item_1) (Nat.le_of_ble_eq_true rfl) ⟨Nat.le_of_ble_eq_true rfl, Nat.le_of_ble_eq_true rfl⟩ hX ⟨hW0, xo_S hS⟩ (fun v1 hM1 => ?_) (fun E1 x1 H1 hM1 hE1 he1 => ?_)
  · rw [hM1] at hR
    dsimp only [xbp] at hR
    have f1 := f_item hM1
    refine lv_iload_n hx hb d_LC_item_4 rfl (lv_at hl 2 rfl) ?_
    refine lv_iconst (v := 0) hx hb d_LC_item_5 (by decide) ?_
    refine lv_ldc (v := 500000) hx hb hown (hts _ w_341) d_LC_item_6 ?_
    refine xc_p (rest := []) (x_invS (argsL := [.int gr, .int (0 : Int32), .int (500000 : Int32)]) hx hb hown (hts _ w_244) (hts _ w_245) (hts _ w_34) (x_code (hts _ w_246)) ⟨by decide, by decide⟩ rfl rfl rfl d_LC_item_8) (c_LC_requireRange h0 σ gr (0 : Int32) (500000 : Int32)) (xs_cw h0 hW0 m_246) (hts _ w_34) ⟨rfl, rfl, Nat.le_of_ble_eq_true rfl, Nat.le_of_ble_eq_true rfl⟩ (hl.1.trans hml.symm) (by rw [hb]; exact d_LC_item_8) (Nat.le_of_ble_eq_true rfl) ⟨Nat.le_of_ble_eq_true rfl, Nat.le_of_ble_eq_true rfl⟩ hX ⟨hW0, xo_S hS⟩ (fun v8 hM8 => ?_) (fun E8 x8 H8 hM8 hE8 he8 => ?_)
    · rw [hM8] at hR
      dsimp only [xbp] at hR
      refine lv_iload_n hx hb d_LC_item_11 rfl (lv_at hl 3 rfl) ?_
      refine lv_iconst (v := 0) hx hb d_LC_item_12 (by decide) ?_
      refine lv_bipush (v := 100) hx hb d_LC_item_13 (by decide) ?_
      refine xc_p (rest := []) (x_invS (argsL := [.int le, .int (0 : Int32), .int (100 : Int32)]) hx hb hown (hts _ w_244) (hts _ w_245) (hts _ w_34) (x_code (hts _ w_246)) ⟨by decide, by decide⟩ rfl rfl rfl d_LC_item_15) (c_LC_requireRange h0 σ le (0 : Int32) (100 : Int32)) (xs_cw h0 hW0 m_246) (hts _ w_34) ⟨rfl, rfl, Nat.le_of_ble_eq_true rfl, Nat.le_of_ble_eq_true rfl⟩ (hl.1.trans hml.symm) (by rw [hb]; exact d_LC_item_15) (Nat.le_of_ble_eq_true rfl) ⟨Nat.le_of_ble_eq_true rfl, Nat.le_of_ble_eq_true rfl⟩ hX ⟨hW0, xo_S hS⟩ (fun v15 hM15 => ?_) (fun E15 x15 H15 hM15 hE15 he15 => ?_)
      · rw [hM15] at hR
        dsimp only [xbp] at hR
        refine lv_iload_n hx hb d_LC_item_18 rfl (lv_at hl 2 rfl) ?_
        refine lv_aload_n hx hb d_LC_item_19 rfl (lv_at hl 0 rfl) ?_
        refine xw_get (C := R_LC) (T := F_LC) (N := 9) (r := 0) (i := 0) hx hb hts hi_LC hown hK hX (by decide) rfl rfl 0 (by decide) (hts _ w_133) rfl rfl d_LC_item_20 ?_
        refine lv_iload_n hx hb d_LC_item_23 rfl (lv_at hl 1 rfl) ?_
        refine xw_iald (r := 1) (i := 0) hx hb hK hX (by decide) 0 rfl rfl (j := it) f1 d_LC_item_24 ?_
        refine lv_icmp_eq (tgt := 46) hx hb d_LC_item_25 (by decide) (fun c25 => ?_) (fun c25 => ?_)
        · rw [if_pos c25] at hR
          refine lv_aload_n hx hb d_LC_item_46 rfl (lv_at hl 0 rfl) ?_
          refine xw_get (C := R_LC) (T := F_LC) (N := 9) (r := 0) (i := 0) hx hb hts hi_LC hown hK hX (by decide) rfl rfl 0 (by decide) (hts _ w_133) rfl rfl d_LC_item_47 ?_
          refine lv_iload_n hx hb d_LC_item_50 rfl (lv_at hl 1 rfl) ?_
          refine lv_iload_n hx hb d_LC_item_51 rfl (lv_at hl 2 rfl) ?_
          refine xw_iast (r := 1) (i := 0) (ent' := XE dA (xB s0) (xuI σ 1 0 it.toNatClampNeg gr)) hx hb hK xInj hX hS (xA_in _ _ _) (by decide) 0 rfl rfl (j := it) f1 ((xe_uI dA (xB s0) σ 1 0 it.toNatClampNeg gr).trans rfl) (xe_oI dA (xB s0) σ 1 0 it.toNatClampNeg gr) d_LC_item_52 (fun H locs hX hS => ?_)
          refine lv_aload_n hx hb d_LC_item_53 rfl (lv_at hl 0 rfl) ?_
          refine xw_get (C := R_LC) (T := F_LC) (N := 9) (r := 0) (i := 0) hx hb hts hi_LC hown hK hX (by decide) rfl rfl 1 (by decide) (hts _ w_134) rfl rfl d_LC_item_54 ?_
          refine lv_iload_n hx hb d_LC_item_57 rfl (lv_at hl 1 rfl) ?_
          refine lv_iload_n hx hb d_LC_item_58 rfl (lv_at hl 3 rfl) ?_
          refine xw_iast (r := 2) (i := 0) (ent' := XE dA (xB s0) (xuI (xuI σ 1 0 it.toNatClampNeg gr) 2 0 it.toNatClampNeg le)) hx hb hK xInj hX hS (xA_in _ _ _) (by decide) 0 rfl rfl (j := it) f1 ((xe_uI dA (xB s0) (xuI σ 1 0 it.toNatClampNeg gr) 2 0 it.toNatClampNeg le).trans rfl) (xe_oI dA (xB s0) (xuI σ 1 0 it.toNatClampNeg gr) 2 0 it.toNatClampNeg le) d_LC_item_59 (fun H locs hX hS => ?_)
          subst hR
          refine W.widen (k := 4) (n := 24) (by decide) (by decide) ?_; exact xs_v hx hb hr hlocks hX hS d_LC_item_60
        · rw [if_neg c25] at hR
          refine lv_aload_n hx hb d_LC_item_28 rfl (lv_at hl 0 rfl) ?_
          refine lv_iload_n hx hb d_LC_item_29 rfl (lv_at hl 1 rfl) ?_
          obtain ⟨cB30, hcB30, hoB30, hkB30⟩ := xw_recv (r := 0) (i := 0) hK hX (by decide) rfl rfl
          refine xc_f (rest := []) (x_invV (argsL := [.int it]) hx hb hown (hts _ w_342) (hts _ w_344) (hts _ w_3) (x_code (hts _ w_345)) ⟨by decide, by decide⟩ hcB30 hoB30 hkB30 rfl rfl rfl d_LC_item_30) (c_LC_isAnywhere h0 σ it hok f1) (xs_cw h0 hW0 m_345) (hts _ w_34) ⟨rfl, rfl, Nat.le_of_ble_eq_true rfl, Nat.le_of_ble_eq_true rfl⟩ (hl.1.trans hml.symm) (by rw [hb]; exact d_LC_item_30) (Nat.le_of_ble_eq_true rfl) ⟨Nat.le_of_ble_eq_true rfl, Nat.le_of_ble_eq_true rfl⟩ hX ⟨hW0, xo_S hS⟩ ?_
          refine lv_if_eq (tgt := 46) hx hb d_LC_item_33 (by decide) (fun c33 => ?_) (fun c33 => ?_)
          · rw [if_pos c33] at hR
            refine lv_aload_n hx hb d_LC_item_46 rfl (lv_at hl 0 rfl) ?_
            refine xw_get (C := R_LC) (T := F_LC) (N := 9) (r := 0) (i := 0) hx hb hts hi_LC hown hK hX (by decide) rfl rfl 0 (by decide) (hts _ w_133) rfl rfl d_LC_item_47 ?_
            refine lv_iload_n hx hb d_LC_item_50 rfl (lv_at hl 1 rfl) ?_
            refine lv_iload_n hx hb d_LC_item_51 rfl (lv_at hl 2 rfl) ?_
            refine xw_iast (r := 1) (i := 0) (ent' := XE dA (xB s0) (xuI σ 1 0 it.toNatClampNeg gr)) hx hb hK xInj hX hS (xA_in _ _ _) (by decide) 0 rfl rfl (j := it) f1 ((xe_uI dA (xB s0) σ 1 0 it.toNatClampNeg gr).trans rfl) (xe_oI dA (xB s0) σ 1 0 it.toNatClampNeg gr) d_LC_item_52 (fun H locs hX hS => ?_)
            refine lv_aload_n hx hb d_LC_item_53 rfl (lv_at hl 0 rfl) ?_
            refine xw_get (C := R_LC) (T := F_LC) (N := 9) (r := 0) (i := 0) hx hb hts hi_LC hown hK hX (by decide) rfl rfl 1 (by decide) (hts _ w_134) rfl rfl d_LC_item_54 ?_
            refine lv_iload_n hx hb d_LC_item_57 rfl (lv_at hl 1 rfl) ?_
            refine lv_iload_n hx hb d_LC_item_58 rfl (lv_at hl 3 rfl) ?_
            refine xw_iast (r := 2) (i := 0) (ent' := XE dA (xB s0) (xuI (xuI σ 1 0 it.toNatClampNeg gr) 2 0 it.toNatClampNeg le)) hx hb hK xInj hX hS (xA_in _ _ _) (by decide) 0 rfl rfl (j := it) f1 ((xe_uI dA (xB s0) (xuI σ 1 0 it.toNatClampNeg gr) 2 0 it.toNatClampNeg le).trans rfl) (xe_oI dA (xB s0) (xuI σ 1 0 it.toNatClampNeg gr) 2 0 it.toNatClampNeg le) d_LC_item_59 (fun H locs hX hS => ?_)
            subst hR
            refine W.widen (k := 4) (n := 24) (by decide) (by decide) ?_; exact xs_v hx hb hr hlocks hX hS d_LC_item_60
          · rw [if_neg c33] at hR
            obtain ⟨qs, hqs⟩ := xs_str h0 hW0 (own := "LoadChecks") (k := 99) (tx := "a vehicle or the stock has some of the old weight") (by decide +kernel); subst hR; refine W.widen (k := 3) (n := 18) (by decide) (by decide) ?_; exact x_throw hx hb h0.1 hown hlocks hnt (hl.1.trans hml.symm) (hts _ w_314) (hts _ w_45) hqs (x_own hO rfl (oa_ISE h0)) (by decide +kernel) (by decide +kernel) d_LC_item_36 d_LC_item_39 d_LC_item_40 d_LC_item_42 d_LC_item_45 (Nat.le_of_ble_eq_true rfl) (Nat.le_of_ble_eq_true rfl) (Nat.le_of_ble_eq_true rfl) (Nat.le_of_ble_eq_true rfl) (fun x t h1 h2 => Or.inr ⟨_, x, rfl, rfl, h1, h2⟩)
      · rw [hM15] at hR
        dsimp only [xbp] at hR
        subst hR
        refine xt_wid (k := 4) (n := 24) (by decide) (by decide) ?_
        exact xt_s hlocks hnt hE15 he15 (fun q h => by cases h)
    · rw [hM8] at hR
      dsimp only [xbp] at hR
      subst hR
      refine xt_wid (k := 4) (n := 24) (by decide) (by decide) ?_
      exact xt_s hlocks hnt hE8 he8 (fun q h => by cases h)
  · rw [hM1] at hR
    dsimp only [xbp] at hR
    subst hR
    refine xt_wid (k := 4) (n := 24) (by decide) (by decide) ?_
    exact xt_s hlocks hnt hE1 he1 (fun q h => by cases h)

abbrev rm_LC_list : Room := { frames := 7, cells := 4, slots := 24, locals := 104 }
def S_LC_list (σ : XS) (k : Int32) (cup : Int32) (it : Int32) (n : Int32) : (Unit × XS) ⊕ String := (xbp (S_LC_requireKind σ k) fun _ => (xbp (S_LC_requireCupboard σ cup) fun _ => (xbp (S_LC_requireItem σ it) fun _ => (xbp (S_LC_requireRange σ n (0 : Int32) (99 : Int32)) fun _ => .inl ((), (xuI σ 5 k.toNatClampNeg (S_LC_cellOf σ cup it).toNatClampNeg n))))))
set_option maxHeartbeats 4000000 in
set_option maxRecDepth 100000 in
theorem c_LC_list {l : Launch} {s0 : State} {A0 : Array Value} {D : va_G} {dA : Nat → ClassId} (h0 : XS0 l s0 A0 D dA) (σ : XS) (k : Int32) (cup : Int32) (it : Int32) (n : Int32)  : XMet l y_LC_list [cw_LC_list] rm_LC_list (XP D dA s0 σ [.ref (xB s0 + XA 0 0), .int k, .int cup, .int it, .int n]) (XQs D dA s0 xv_v (S_LC_list σ k cup it n)) 4 24 (xAm s0) := by
  refine XMet.ofW (cc := b_LC_list) (maxL := 5) (ret := none) (by decide) rfl ?_
  intro p e s m args below meth c s₁ Bd hml hvA
  obtain ⟨rfl, hX, hO⟩ := hvA
  have hx := Bd.exec
  have hb := Bd.bytes
  have hr := Bd.returns
  have hown : s.vm.findClass "LoadChecks" = some m.cls := findClass_of_methodNamed Bd.named
  have hlocks := Bd.notSynchronized
  have hnt : c.exceptionTable.isEmpty = true := Bd.noHandlers (atoms_spec (ws := [cw_LC_list]) Bd.pre _ List.mem_cons_self)
  have hW0 := hO.1
  have hts := xs_w (args := ([.ref (xB s0 + XA 0 0), .int k, .int cup, .int it, .int n] : List Value).toArray) h0 hW0
  have hK := xs_K h0 hW0
  have hS := xo_S0 hO
  have hl := lv_entry ([.ref (xB s0 + XA 0 0), .int k, .int cup, .int it, .int n]) (n := 5) (Nat.le_of_ble_eq_true rfl)
  rw [lg_entry_eq]
  generalize (lg_sl ([.ref (xB s0 + XA 0 0), .int k, .int cup, .int it, .int n]) ++ List.replicate (5 - (lg_sl ([.ref (xB s0 + XA 0 0), .int k, .int cup, .int it, .int n])).length) Slot.unset).toArray = ls at hl ⊢
  have hl : lv_has ls 5 [(0, .ref (xB s0 + XA 0 0)), (1, .int k), (2, .int cup), (3, .int it), (4, .int n)] := hl
  generalize hR : S_LC_list σ k cup it n = res
  unfold S_LC_list at hR
  refine lv_iload_n hx hb d_LC_list_0 rfl (lv_at hl 1 rfl) ?_
  refine xc_p (rest := []) (x_invS (argsL := [.int k]) hx hb hown (hts _ w_171) (hts _ w_172) (hts _ w_34) (x_code (hts _ w_173)) ⟨by decide, by decide⟩ rfl rfl rfl d_LC_list_1) (c_LC_requireKind h0 σ k) (xs_cw h0 hW0 m_173) (hts _ w_34) ⟨rfl, rfl, Nat.le_of_ble_eq_true rfl, Nat.le_of_ble_eq_true rfl⟩ (hl.1.trans hml.symm) (by rw [hb]; exact d_LC_list_1) (Nat.le_of_ble_eq_true rfl) ⟨Nat.le_of_ble_eq_true rfl, Nat.le_of_ble_eq_true rfl⟩ hX ⟨hW0, xo_S hS⟩ (fun v1 hM1 => ?_) (fun E1 x1 H1 hM1 hE1 he1 => ?_)
  · rw [hM1] at hR
    dsimp only [xbp] at hR
    have f1 := f_kind hM1
    refine lv_iload_n hx hb d_LC_list_4 rfl (lv_at hl 2 rfl) ?_
    refine xc_p (rest := []) (x_invS (argsL := [.int cup]) hx hb hown (hts _ w_303) (hts _ w_304) (hts _ w_34) (x_code (hts _ w_305)) ⟨by decide, by decide⟩ rfl rfl rfl d_LC_list_5) (c_LC_requireCupboard h0 σ cup) (xs_cw h0 hW0 m_305) (hts _ w_34) ⟨rfl, rfl, Nat.le_of_ble_eq_true rfl, Nat.le_of_ble_eq_true rfl⟩ (hl.1.trans hml.symm) (by rw [hb]; exact d_LC_list_5) (Nat.le_of_ble_eq_true rfl) ⟨Nat.le_of_ble_eq_true rfl, Nat.le_of_ble_eq_true rfl⟩ hX ⟨hW0, xo_S hS⟩ (fun v5 hM5 => ?_) (fun E5 x5 H5 hM5 hE5 he5 => ?_)
    · rw [hM5] at hR
      dsimp only [xbp] at hR
      have f5 := f_cup hM5
      refine lv_iload_n hx hb d_LC_list_8 rfl (lv_at hl 3 rfl) ?_
      refine xc_p (rest := []) (x_invS (argsL := [.int it]) hx hb hown (hts _ w_337) (hts _ w_338) (hts _ w_34) (x_code (hts _ w_339)) ⟨by decide, by decide⟩ rfl rfl rfl d_LC_list_9) (c_LC_requireItem h0 σ it) (xs_cw h0 hW0 m_339) (hts _ w_34) ⟨rfl, rfl, Nat.le_of_ble_eq_true rfl, Nat.le_of_ble_eq_true rfl⟩ (hl.1.trans hml.symm) (by rw [hb]; exact d_LC_list_9) (Nat.le_of_ble_eq_true rfl) ⟨Nat.le_of_ble_eq_true rfl, Nat.le_of_ble_eq_true rfl⟩ hX ⟨hW0, xo_S hS⟩ (fun v9 hM9 => ?_) (fun E9 x9 H9 hM9 hE9 he9 => ?_)
      · rw [hM9] at hR
        dsimp only [xbp] at hR
        have f9 := f_item hM9
        refine lv_iload hx hb d_LC_list_12 (lv_at hl 4 rfl) ?_
        refine lv_iconst (v := 0) hx hb d_LC_list_14 (by decide) ?_
        refine lv_bipush (v := 99) hx hb d_LC_list_15 (by decide) ?_
        refine xc_p (rest := []) (x_invS (argsL := [.int n, .int (0 : Int32), .int (99 : Int32)]) hx hb hown (hts _ w_244) (hts _ w_245) (hts _ w_34) (x_code (hts _ w_246)) ⟨by decide, by decide⟩ rfl rfl rfl d_LC_list_17) (c_LC_requireRange h0 σ n (0 : Int32) (99 : Int32)) (xs_cw h0 hW0 m_246) (hts _ w_34) ⟨rfl, rfl, Nat.le_of_ble_eq_true rfl, Nat.le_of_ble_eq_true rfl⟩ (hl.1.trans hml.symm) (by rw [hb]; exact d_LC_list_17) (Nat.le_of_ble_eq_true rfl) ⟨Nat.le_of_ble_eq_true rfl, Nat.le_of_ble_eq_true rfl⟩ hX ⟨hW0, xo_S hS⟩ (fun v17 hM17 => ?_) (fun E17 x17 H17 hM17 hE17 he17 => ?_)
        · rw [hM17] at hR
          dsimp only [xbp] at hR
          refine lv_aload_n hx hb d_LC_list_20 rfl (lv_at hl 0 rfl) ?_
          refine xw_get (C := R_LC) (T := F_LC) (N := 9) (r := 0) (i := 0) hx hb hts hi_LC hown hK hX (by decide) rfl rfl 3 (by decide) (hts _ w_136) rfl rfl d_LC_list_21 ?_
          refine lv_iload_n hx hb d_LC_list_24 rfl (lv_at hl 1 rfl) ?_
          refine xw_aald (r := 4) (i := 0) hx hb hK hX (by decide) 3 rfl rfl rfl (j := k) f1 rfl d_LC_list_25 ?_
          refine lv_iload_n hx hb d_LC_list_26 rfl (lv_at hl 2 rfl) ?_
          refine lv_iload_n hx hb d_LC_list_27 rfl (lv_at hl 3 rfl) ?_
          refine xc_f (rest := [.ref (xB s0 + XA 5 k.toNatClampNeg)]) (x_invS (argsL := [.int cup, .int it]) hx hb hown (hts _ w_358) (hts _ w_312) (hts _ w_34) (x_code (hts _ w_313)) ⟨by decide, by decide⟩ rfl rfl rfl d_LC_list_28) (c_LC_cellOf h0 σ cup it) (xs_cw h0 hW0 m_313) (hts _ w_34) ⟨rfl, rfl, Nat.le_of_ble_eq_true rfl, Nat.le_of_ble_eq_true rfl⟩ (hl.1.trans hml.symm) (by rw [hb]; exact d_LC_list_28) (Nat.le_of_ble_eq_true rfl) ⟨Nat.le_of_ble_eq_true rfl, Nat.le_of_ble_eq_true rfl⟩ hX ⟨hW0, xo_S hS⟩ ?_
          refine lv_iload hx hb d_LC_list_31 (lv_at hl 4 rfl) ?_
          refine xw_iast (r := 5) (i := k.toNatClampNeg) (ent' := XE dA (xB s0) (xuI σ 5 k.toNatClampNeg (S_LC_cellOf σ cup it).toNatClampNeg n)) hx hb hK xInj hX hS (xA_in _ _ _) (vp_lt f1) 0 rfl rfl (j := (S_LC_cellOf σ cup it)) (o_cell f5 f9) ((xe_uI dA (xB s0) σ 5 k.toNatClampNeg (S_LC_cellOf σ cup it).toNatClampNeg n).trans rfl) (xe_oI dA (xB s0) σ 5 k.toNatClampNeg (S_LC_cellOf σ cup it).toNatClampNeg n) d_LC_list_33 (fun H locs hX hS => ?_)
          subst hR
          refine W.widen (k := 4) (n := 24) (by decide) (by decide) ?_; exact xs_v hx hb hr hlocks hX hS d_LC_list_34
        · rw [hM17] at hR
          dsimp only [xbp] at hR
          subst hR
          refine xt_wid (k := 4) (n := 24) (by decide) (by decide) ?_
          exact xt_s hlocks hnt hE17 he17 (fun q h => by cases h)
      · rw [hM9] at hR
        dsimp only [xbp] at hR
        subst hR
        refine xt_wid (k := 4) (n := 24) (by decide) (by decide) ?_
        exact xt_s hlocks hnt hE9 he9 (fun q h => by cases h)
    · rw [hM5] at hR
      dsimp only [xbp] at hR
      subst hR
      refine xt_wid (k := 4) (n := 24) (by decide) (by decide) ?_
      exact xt_s hlocks hnt hE5 he5 (fun q h => by cases h)
  · rw [hM1] at hR
    dsimp only [xbp] at hR
    subst hR
    refine xt_wid (k := 4) (n := 24) (by decide) (by decide) ?_
    exact xt_s hlocks hnt hE1 he1 (fun q h => by cases h)

abbrev rm_LC_stock : Room := { frames := 7, cells := 3, slots := 18, locals := 104 }
def S_LC_stock (σ : XS) (it : Int32) (n : Int32) : (Int32 × XS) ⊕ String := (xbp (S_LC_requireItem σ it) fun _ => (xbp (S_LC_requireRange σ n (1 : Int32) (99 : Int32)) fun _ => (if ((σ.1 3 0 it.toNatClampNeg) + n) ≤ (10000 : Int32) then .inl (((xuI σ 3 0 it.toNatClampNeg ((σ.1 3 0 it.toNatClampNeg) + n)).1 3 0 it.toNatClampNeg), (xuI σ 3 0 it.toNatClampNeg ((σ.1 3 0 it.toNatClampNeg) + n))) else .inr "java/lang/UnsupportedOperationException")))
set_option maxHeartbeats 4000000 in
set_option maxRecDepth 100000 in
theorem c_LC_stock {l : Launch} {s0 : State} {A0 : Array Value} {D : va_G} {dA : Nat → ClassId} (h0 : XS0 l s0 A0 D dA) (σ : XS) (it : Int32) (n : Int32)  : XMet l y_LC_stock [cw_LC_stock] rm_LC_stock (XP D dA s0 σ [.ref (xB s0 + XA 0 0), .int it, .int n]) (XQs D dA s0 xv_i (S_LC_stock σ it n)) 3 18 (xAm s0) := by
  refine XMet.ofW (cc := b_LC_stock) (maxL := 3) (ret := (some .int)) (by decide) rfl ?_
  intro p e s m args below meth c s₁ Bd hml hvA
  obtain ⟨rfl, hX, hO⟩ := hvA
  have hx := Bd.exec
  have hb := Bd.bytes
  have hr := Bd.returns
  have hown : s.vm.findClass "LoadChecks" = some m.cls := findClass_of_methodNamed Bd.named
  have hlocks := Bd.notSynchronized
  have hnt : c.exceptionTable.isEmpty = true := Bd.noHandlers (atoms_spec (ws := [cw_LC_stock]) Bd.pre _ List.mem_cons_self)
  have hW0 := hO.1
  have hts := xs_w (args := ([.ref (xB s0 + XA 0 0), .int it, .int n] : List Value).toArray) h0 hW0
  have hK := xs_K h0 hW0
  have hS := xo_S0 hO
  have hl := lv_entry ([.ref (xB s0 + XA 0 0), .int it, .int n]) (n := 3) (Nat.le_of_ble_eq_true rfl)
  rw [lg_entry_eq]
  generalize (lg_sl ([.ref (xB s0 + XA 0 0), .int it, .int n]) ++ List.replicate (3 - (lg_sl ([.ref (xB s0 + XA 0 0), .int it, .int n])).length) Slot.unset).toArray = ls at hl ⊢
  have hl : lv_has ls 3 [(0, .ref (xB s0 + XA 0 0)), (1, .int it), (2, .int n)] := hl
  generalize hR : S_LC_stock σ it n = res
  unfold S_LC_stock at hR
  refine lv_iload_n hx hb d_LC_stock_0 rfl (lv_at hl 1 rfl) ?_
  refine xc_p (rest := []) (x_invS (argsL := [.int it]) hx hb hown (hts _ w_337) (hts _ w_338) (hts _ w_34) (x_code (hts _ w_339)) ⟨by decide, by decide⟩ rfl rfl rfl d_LC_stock_1) (c_LC_requireItem h0 σ it) (xs_cw h0 hW0 m_339) (hts _ w_34) ⟨rfl, rfl, Nat.le_of_ble_eq_true rfl, Nat.le_of_ble_eq_true rfl⟩ (hl.1.trans hml.symm) (by rw [hb]; exact d_LC_stock_1) (Nat.le_of_ble_eq_true rfl) ⟨Nat.le_of_ble_eq_true rfl, Nat.le_of_ble_eq_true rfl⟩ hX ⟨hW0, xo_S hS⟩ (fun v1 hM1 => ?_) (fun E1 x1 H1 hM1 hE1 he1 => ?_)
  · rw [hM1] at hR
    dsimp only [xbp] at hR
    have f1 := f_item hM1
    refine lv_iload_n hx hb d_LC_stock_4 rfl (lv_at hl 2 rfl) ?_
    refine lv_iconst (v := 1) hx hb d_LC_stock_5 (by decide) ?_
    refine lv_bipush (v := 99) hx hb d_LC_stock_6 (by decide) ?_
    refine xc_p (rest := []) (x_invS (argsL := [.int n, .int (1 : Int32), .int (99 : Int32)]) hx hb hown (hts _ w_244) (hts _ w_245) (hts _ w_34) (x_code (hts _ w_246)) ⟨by decide, by decide⟩ rfl rfl rfl d_LC_stock_8) (c_LC_requireRange h0 σ n (1 : Int32) (99 : Int32)) (xs_cw h0 hW0 m_246) (hts _ w_34) ⟨rfl, rfl, Nat.le_of_ble_eq_true rfl, Nat.le_of_ble_eq_true rfl⟩ (hl.1.trans hml.symm) (by rw [hb]; exact d_LC_stock_8) (Nat.le_of_ble_eq_true rfl) ⟨Nat.le_of_ble_eq_true rfl, Nat.le_of_ble_eq_true rfl⟩ hX ⟨hW0, xo_S hS⟩ (fun v8 hM8 => ?_) (fun E8 x8 H8 hM8 hE8 he8 => ?_)
    · rw [hM8] at hR
      dsimp only [xbp] at hR
      refine lv_aload_n hx hb d_LC_stock_11 rfl (lv_at hl 0 rfl) ?_
      refine xw_get (C := R_LC) (T := F_LC) (N := 9) (r := 0) (i := 0) hx hb hts hi_LC hown hK hX (by decide) rfl rfl 2 (by decide) (hts _ w_135) rfl rfl d_LC_stock_12 ?_
      refine lv_iload_n hx hb d_LC_stock_15 rfl (lv_at hl 1 rfl) ?_
      refine xw_iald (r := 3) (i := 0) hx hb hK hX (by decide) 0 rfl rfl (j := it) f1 d_LC_stock_16 ?_
      refine lv_iload_n hx hb d_LC_stock_17 rfl (lv_at hl 2 rfl) ?_
      refine lv_iadd hx hb d_LC_stock_18 ?_
      refine lv_sipush (v := 10000) hx hb d_LC_stock_19 (by decide) ?_
      refine lv_icmp_le (tgt := 35) hx hb d_LC_stock_22 (by decide) (fun c22 => ?_) (fun c22 => ?_)
      · rw [if_pos c22] at hR
        refine lv_aload_n hx hb d_LC_stock_35 rfl (lv_at hl 0 rfl) ?_
        refine xw_get (C := R_LC) (T := F_LC) (N := 9) (r := 0) (i := 0) hx hb hts hi_LC hown hK hX (by decide) rfl rfl 2 (by decide) (hts _ w_135) rfl rfl d_LC_stock_36 ?_
        refine lv_iload_n hx hb d_LC_stock_39 rfl (lv_at hl 1 rfl) ?_
        refine lv_dup2_11 hx hb d_LC_stock_40 rfl rfl ?_
        refine xw_iald (r := 3) (i := 0) hx hb hK hX (by decide) 0 rfl rfl (j := it) f1 d_LC_stock_41 ?_
        refine lv_iload_n hx hb d_LC_stock_42 rfl (lv_at hl 2 rfl) ?_
        refine lv_iadd hx hb d_LC_stock_43 ?_
        refine xw_iast (r := 3) (i := 0) (ent' := XE dA (xB s0) (xuI σ 3 0 it.toNatClampNeg ((σ.1 3 0 it.toNatClampNeg) + n))) hx hb hK xInj hX hS (xA_in _ _ _) (by decide) 0 rfl rfl (j := it) f1 ((xe_uI dA (xB s0) σ 3 0 it.toNatClampNeg ((σ.1 3 0 it.toNatClampNeg) + n)).trans rfl) (xe_oI dA (xB s0) σ 3 0 it.toNatClampNeg ((σ.1 3 0 it.toNatClampNeg) + n)) d_LC_stock_44 (fun H locs hX hS => ?_)
        refine lv_aload_n hx hb d_LC_stock_45 rfl (lv_at hl 0 rfl) ?_
        refine xw_get (C := R_LC) (T := F_LC) (N := 9) (r := 0) (i := 0) hx hb hts hi_LC hown hK hX (by decide) rfl rfl 2 (by decide) (hts _ w_135) rfl rfl d_LC_stock_46 ?_
        refine lv_iload_n hx hb d_LC_stock_49 rfl (lv_at hl 1 rfl) ?_
        refine xw_iald (r := 3) (i := 0) hx hb hK hX (by decide) 0 rfl rfl (j := it) f1 d_LC_stock_50 ?_
        subst hR
        refine W.widen (k := 3) (n := 18) (by decide) (by decide) ?_; exact xs_i hx hb hr hlocks hX hS d_LC_stock_51
      · rw [if_neg c22] at hR
        obtain ⟨qs, hqs⟩ := xs_str h0 hW0 (own := "LoadChecks") (k := 105) (tx := "no room in stock") (by decide +kernel); subst hR; refine W.widen (k := 2) (n := 12) (by decide) (by decide) ?_; exact x_throw hx hb h0.1 hown hlocks hnt (hl.1.trans hml.symm) (hts _ w_267) (hts _ w_44) hqs (x_own hO rfl (oa_UOE h0)) (by decide +kernel) (by decide +kernel) d_LC_stock_25 d_LC_stock_28 d_LC_stock_29 d_LC_stock_31 d_LC_stock_34 (Nat.le_of_ble_eq_true rfl) (Nat.le_of_ble_eq_true rfl) (Nat.le_of_ble_eq_true rfl) (Nat.le_of_ble_eq_true rfl) (fun x t h1 h2 => Or.inr ⟨_, x, rfl, rfl, h1, h2⟩)
    · rw [hM8] at hR
      dsimp only [xbp] at hR
      subst hR
      refine xt_wid (k := 3) (n := 18) (by decide) (by decide) ?_
      exact xt_s hlocks hnt hE8 he8 (fun q h => by cases h)
  · rw [hM1] at hR
    dsimp only [xbp] at hR
    subst hR
    refine xt_wid (k := 3) (n := 18) (by decide) (by decide) ?_
    exact xt_s hlocks hnt hE1 he1 (fun q h => by cases h)
