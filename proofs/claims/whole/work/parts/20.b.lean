abbrev rm_MO_thrown : Room := { frames := 0, cells := 0, slots := 0, locals := 0 }
def S_MO_thrown (σ : XS)  : Int32 := (σ.1 15 0 0)
set_option maxHeartbeats 4000000 in
set_option maxRecDepth 100000 in
theorem c_MO_thrown {l : Launch} {s0 : State} {A0 : Array Value} {D : va_G} {dA : Nat → ClassId} (h0 : XS0 l s0 A0 D dA) (σ : XS)   : XMet l y_MO_thrown [cw_MO_thrown] rm_MO_thrown (XP D dA s0 σ [.ref (xB s0 + XA 15 0)]) (XQp xv_i (.inl (S_MO_thrown σ))) 0 0 (fun _ => False) := by
  refine XMet.ofW (cc := b_MO_thrown) (maxL := 1) (ret := (some .int)) (by decide) rfl ?_
  intro p e s m args below meth c s₁ Bd hml hvA
  obtain ⟨rfl, hX, hO⟩ := hvA
  have hx := Bd.exec
  have hb := Bd.bytes
  have hr := Bd.returns
  have hown : s.vm.findClass "LoadChecksModel" = some m.cls := findClass_of_methodNamed Bd.named
  have hlocks := Bd.notSynchronized
  have hnt : c.exceptionTable.isEmpty = true := Bd.noHandlers (atoms_spec (ws := [cw_MO_thrown]) Bd.pre _ List.mem_cons_self)
  have hW0 := hO.1
  have hts := xs_w (args := ([.ref (xB s0 + XA 15 0)] : List Value).toArray) h0 hW0
  have hK := xs_K h0 hW0
  have hl := lv_entry ([.ref (xB s0 + XA 15 0)]) (n := 1) (Nat.le_of_ble_eq_true rfl)
  rw [lg_entry_eq]
  generalize (lg_sl ([.ref (xB s0 + XA 15 0)]) ++ List.replicate (1 - (lg_sl ([.ref (xB s0 + XA 15 0)])).length) Slot.unset).toArray = ls at hl ⊢
  have hl : lv_has ls 1 [(0, .ref (xB s0 + XA 15 0))] := hl
  generalize hR : S_MO_thrown σ = res
  unfold S_MO_thrown at hR
  refine lv_aload_n hx hb d_MO_thrown_0 rfl (lv_at hl 0 rfl) ?_
  refine xw_get (C := R_MO) (T := F_MO) (N := 20) (r := 15) (i := 0) hx hb hts hi_MO hown hK hX (by decide) rfl rfl 0 (by decide) (hts _ w_595) rfl rfl d_MO_thrown_1 ?_
  subst hR
  refine W.widen (k := 0) (n := 0) (by decide) (by decide) ?_; exact xr_i hx hb hr hlocks d_MO_thrown_4

abbrev rm_MO_throwing : Room := { frames := 0, cells := 0, slots := 0, locals := 0 }
def S_MO_throwing (σ : XS) (f1 : Int32) (f2 : Int32) (f3 : Int32) (f4 : Int32) : Int32 × XS := (if f1 = 0 then (if f2 = 0 then (if f3 = 0 then (if f4 = 0 then (if ((xuI σ 15 0 0 (0 : Int32)).1 15 0 0) ≤ 0 then ((0 : Int32), (xuI σ 15 0 0 (0 : Int32))) else ((1 : Int32), (xuI σ 15 0 0 (0 : Int32)))) else (if ((xuI σ 15 0 0 (4 : Int32)).1 15 0 0) ≤ 0 then ((0 : Int32), (xuI σ 15 0 0 (4 : Int32))) else ((1 : Int32), (xuI σ 15 0 0 (4 : Int32))))) else (if ((xuI σ 15 0 0 (3 : Int32)).1 15 0 0) ≤ 0 then ((0 : Int32), (xuI σ 15 0 0 (3 : Int32))) else ((1 : Int32), (xuI σ 15 0 0 (3 : Int32))))) else (if ((xuI σ 15 0 0 (2 : Int32)).1 15 0 0) ≤ 0 then ((0 : Int32), (xuI σ 15 0 0 (2 : Int32))) else ((1 : Int32), (xuI σ 15 0 0 (2 : Int32))))) else (if ((xuI σ 15 0 0 (1 : Int32)).1 15 0 0) ≤ 0 then ((0 : Int32), (xuI σ 15 0 0 (1 : Int32))) else ((1 : Int32), (xuI σ 15 0 0 (1 : Int32)))))
set_option maxHeartbeats 4000000 in
set_option maxRecDepth 100000 in
theorem c_MO_throwing {l : Launch} {s0 : State} {A0 : Array Value} {D : va_G} {dA : Nat → ClassId} (h0 : XS0 l s0 A0 D dA) (σ : XS) (f1 : Int32) (f2 : Int32) (f3 : Int32) (f4 : Int32)  : XMet l y_MO_throwing [cw_MO_throwing] rm_MO_throwing (XP D dA s0 σ [.ref (xB s0 + XA 15 0), .int f1, .int f2, .int f3, .int f4]) (XQs D dA s0 xv_i (.inl (S_MO_throwing σ f1 f2 f3 f4))) 0 0 (xAm s0) := by
  refine XMet.ofW (cc := b_MO_throwing) (maxL := 5) (ret := (some .boolean)) (by decide) rfl ?_
  intro p e s m args below meth c s₁ Bd hml hvA
  obtain ⟨rfl, hX, hO⟩ := hvA
  have hx := Bd.exec
  have hb := Bd.bytes
  have hr := Bd.returns
  have hown : s.vm.findClass "LoadChecksModel" = some m.cls := findClass_of_methodNamed Bd.named
  have hlocks := Bd.notSynchronized
  have hnt : c.exceptionTable.isEmpty = true := Bd.noHandlers (atoms_spec (ws := [cw_MO_throwing]) Bd.pre _ List.mem_cons_self)
  have hW0 := hO.1
  have hts := xs_w (args := ([.ref (xB s0 + XA 15 0), .int f1, .int f2, .int f3, .int f4] : List Value).toArray) h0 hW0
  have hK := xs_K h0 hW0
  have hS := xo_S0 hO
  have hl := lv_entry ([.ref (xB s0 + XA 15 0), .int f1, .int f2, .int f3, .int f4]) (n := 5) (Nat.le_of_ble_eq_true rfl)
  rw [lg_entry_eq]
  generalize (lg_sl ([.ref (xB s0 + XA 15 0), .int f1, .int f2, .int f3, .int f4]) ++ List.replicate (5 - (lg_sl ([.ref (xB s0 + XA 15 0), .int f1, .int f2, .int f3, .int f4])).length) Slot.unset).toArray = ls at hl ⊢
  have hl : lv_has ls 5 [(0, .ref (xB s0 + XA 15 0)), (1, .int f1), (2, .int f2), (3, .int f3), (4, .int f4)] := hl
  generalize hR : S_MO_throwing σ f1 f2 f3 f4 = res
  unfold S_MO_throwing at hR
  refine lv_aload_n hx hb d_MO_throwing_0 rfl (lv_at hl 0 rfl) ?_
  refine lv_iload_n hx hb d_MO_throwing_1 rfl (lv_at hl 1 rfl) ?_
  refine lv_if_eq (tgt := 9) hx hb d_MO_throwing_2 (by decide) (fun c2 => ?_) (fun c2 => ?_)
  · rw [if_pos c2] at hR
    refine lv_iload_n hx hb d_MO_throwing_9 rfl (lv_at hl 2 rfl) ?_
    refine lv_if_eq (tgt := 17) hx hb d_MO_throwing_10 (by decide) (fun c10 => ?_) (fun c10 => ?_)
    · rw [if_pos c10] at hR
      refine lv_iload_n hx hb d_MO_throwing_17 rfl (lv_at hl 3 rfl) ?_
      refine lv_if_eq (tgt := 25) hx hb d_MO_throwing_18 (by decide) (fun c18 => ?_) (fun c18 => ?_)
      · rw [if_pos c18] at hR
        refine lv_iload hx hb d_MO_throwing_25 (lv_at hl 4 rfl) ?_
        refine lv_if_eq (tgt := 34) hx hb d_MO_throwing_27 (by decide) (fun c27 => ?_) (fun c27 => ?_)
        · rw [if_pos c27] at hR
          refine lv_iconst (v := 0) hx hb d_MO_throwing_34 (by decide) ?_
          refine xw_put (C := R_MO) (T := F_MO) (N := 20) (r := 15) (i := 0) (ent' := XE dA (xB s0) (xuI σ 15 0 0 (0 : Int32))) hx hb hts hi_MO t_MO t_MO_ok n_MO hown hK xInj hX hS (xA_in _ _ _) (by decide) rfl rfl 0 (by decide) (hts _ w_595) rfl rfl rfl rfl (Nat.le_of_ble_eq_true rfl) ((xe_uI dA (xB s0) σ 15 0 0 (0 : Int32)).trans rfl) (xe_oI dA (xB s0) σ 15 0 0 (0 : Int32)) d_MO_throwing_35 (fun H locs hX hS => ?_)
          refine lv_aload_n hx hb d_MO_throwing_38 rfl (lv_at hl 0 rfl) ?_
          refine xw_get (C := R_MO) (T := F_MO) (N := 20) (r := 15) (i := 0) hx hb hts hi_MO hown hK hX (by decide) rfl rfl 0 (by decide) (hts _ w_595) rfl rfl d_MO_throwing_39 ?_
          refine lv_if_le (tgt := 49) hx hb d_MO_throwing_42 (by decide) (fun c42 => ?_) (fun c42 => ?_)
          · rw [if_pos c42] at hR
            refine lv_iconst (v := 0) hx hb d_MO_throwing_49 (by decide) ?_
            subst hR
            refine W.widen (k := 0) (n := 0) (by decide) (by decide) ?_; exact xs_z hx hb hr hlocks (by rfl) hX hS d_MO_throwing_50
          · rw [if_neg c42] at hR
            refine lv_iconst (v := 1) hx hb d_MO_throwing_45 (by decide) ?_
            refine lv_goto (tgt := 50) hx hb d_MO_throwing_46 (by decide) ?_
            subst hR
            refine W.widen (k := 0) (n := 0) (by decide) (by decide) ?_; exact xs_z hx hb hr hlocks (by rfl) hX hS d_MO_throwing_50
        · rw [if_neg c27] at hR
          refine lv_iconst (v := 4) hx hb d_MO_throwing_30 (by decide) ?_
          refine lv_goto (tgt := 35) hx hb d_MO_throwing_31 (by decide) ?_
          refine xw_put (C := R_MO) (T := F_MO) (N := 20) (r := 15) (i := 0) (ent' := XE dA (xB s0) (xuI σ 15 0 0 (4 : Int32))) hx hb hts hi_MO t_MO t_MO_ok n_MO hown hK xInj hX hS (xA_in _ _ _) (by decide) rfl rfl 0 (by decide) (hts _ w_595) rfl rfl rfl rfl (Nat.le_of_ble_eq_true rfl) ((xe_uI dA (xB s0) σ 15 0 0 (4 : Int32)).trans rfl) (xe_oI dA (xB s0) σ 15 0 0 (4 : Int32)) d_MO_throwing_35 (fun H locs hX hS => ?_)
          refine lv_aload_n hx hb d_MO_throwing_38 rfl (lv_at hl 0 rfl) ?_
          refine xw_get (C := R_MO) (T := F_MO) (N := 20) (r := 15) (i := 0) hx hb hts hi_MO hown hK hX (by decide) rfl rfl 0 (by decide) (hts _ w_595) rfl rfl d_MO_throwing_39 ?_
          refine lv_if_le (tgt := 49) hx hb d_MO_throwing_42 (by decide) (fun c42 => ?_) (fun c42 => ?_)
          · rw [if_pos c42] at hR
            refine lv_iconst (v := 0) hx hb d_MO_throwing_49 (by decide) ?_
            subst hR
            refine W.widen (k := 0) (n := 0) (by decide) (by decide) ?_; exact xs_z hx hb hr hlocks (by rfl) hX hS d_MO_throwing_50
          · rw [if_neg c42] at hR
            refine lv_iconst (v := 1) hx hb d_MO_throwing_45 (by decide) ?_
            refine lv_goto (tgt := 50) hx hb d_MO_throwing_46 (by decide) ?_
            subst hR
            refine W.widen (k := 0) (n := 0) (by decide) (by decide) ?_; exact xs_z hx hb hr hlocks (by rfl) hX hS d_MO_throwing_50
      · rw [if_neg c18] at hR
        refine lv_iconst (v := 3) hx hb d_MO_throwing_21 (by decide) ?_
        refine lv_goto (tgt := 35) hx hb d_MO_throwing_22 (by decide) ?_
        refine xw_put (C := R_MO) (T := F_MO) (N := 20) (r := 15) (i := 0) (ent' := XE dA (xB s0) (xuI σ 15 0 0 (3 : Int32))) hx hb hts hi_MO t_MO t_MO_ok n_MO hown hK xInj hX hS (xA_in _ _ _) (by decide) rfl rfl 0 (by decide) (hts _ w_595) rfl rfl rfl rfl (Nat.le_of_ble_eq_true rfl) ((xe_uI dA (xB s0) σ 15 0 0 (3 : Int32)).trans rfl) (xe_oI dA (xB s0) σ 15 0 0 (3 : Int32)) d_MO_throwing_35 (fun H locs hX hS => ?_)
        refine lv_aload_n hx hb d_MO_throwing_38 rfl (lv_at hl 0 rfl) ?_
        refine xw_get (C := R_MO) (T := F_MO) (N := 20) (r := 15) (i := 0) hx hb hts hi_MO hown hK hX (by decide) rfl rfl 0 (by decide) (hts _ w_595) rfl rfl d_MO_throwing_39 ?_
        refine lv_if_le (tgt := 49) hx hb d_MO_throwing_42 (by decide) (fun c42 => ?_) (fun c42 => ?_)
        · rw [if_pos c42] at hR
          refine lv_iconst (v := 0) hx hb d_MO_throwing_49 (by decide) ?_
          subst hR
          refine W.widen (k := 0) (n := 0) (by decide) (by decide) ?_; exact xs_z hx hb hr hlocks (by rfl) hX hS d_MO_throwing_50
        · rw [if_neg c42] at hR
          refine lv_iconst (v := 1) hx hb d_MO_throwing_45 (by decide) ?_
          refine lv_goto (tgt := 50) hx hb d_MO_throwing_46 (by decide) ?_
          subst hR
          refine W.widen (k := 0) (n := 0) (by decide) (by decide) ?_; exact xs_z hx hb hr hlocks (by rfl) hX hS d_MO_throwing_50
    · rw [if_neg c10] at hR
      refine lv_iconst (v := 2) hx hb d_MO_throwing_13 (by decide) ?_
      refine lv_goto (tgt := 35) hx hb d_MO_throwing_14 (by decide) ?_
      refine xw_put (C := R_MO) (T := F_MO) (N := 20) (r := 15) (i := 0) (ent' := XE dA (xB s0) (xuI σ 15 0 0 (2 : Int32))) hx hb hts hi_MO t_MO t_MO_ok n_MO hown hK xInj hX hS (xA_in _ _ _) (by decide) rfl rfl 0 (by decide) (hts _ w_595) rfl rfl rfl rfl (Nat.le_of_ble_eq_true rfl) ((xe_uI dA (xB s0) σ 15 0 0 (2 : Int32)).trans rfl) (xe_oI dA (xB s0) σ 15 0 0 (2 : Int32)) d_MO_throwing_35 (fun H locs hX hS => ?_)
      refine lv_aload_n hx hb d_MO_throwing_38 rfl (lv_at hl 0 rfl) ?_
      refine xw_get (C := R_MO) (T := F_MO) (N := 20) (r := 15) (i := 0) hx hb hts hi_MO hown hK hX (by decide) rfl rfl 0 (by decide) (hts _ w_595) rfl rfl d_MO_throwing_39 ?_
      refine lv_if_le (tgt := 49) hx hb d_MO_throwing_42 (by decide) (fun c42 => ?_) (fun c42 => ?_)
      · rw [if_pos c42] at hR
        refine lv_iconst (v := 0) hx hb d_MO_throwing_49 (by decide) ?_
        subst hR
        refine W.widen (k := 0) (n := 0) (by decide) (by decide) ?_; exact xs_z hx hb hr hlocks (by rfl) hX hS d_MO_throwing_50
      · rw [if_neg c42] at hR
        refine lv_iconst (v := 1) hx hb d_MO_throwing_45 (by decide) ?_
        refine lv_goto (tgt := 50) hx hb d_MO_throwing_46 (by decide) ?_
        subst hR
        refine W.widen (k := 0) (n := 0) (by decide) (by decide) ?_; exact xs_z hx hb hr hlocks (by rfl) hX hS d_MO_throwing_50
  · rw [if_neg c2] at hR
    refine lv_iconst (v := 1) hx hb d_MO_throwing_5 (by decide) ?_
    refine lv_goto (tgt := 35) hx hb d_MO_throwing_6 (by decide) ?_
    refine xw_put (C := R_MO) (T := F_MO) (N := 20) (r := 15) (i := 0) (ent' := XE dA (xB s0) (xuI σ 15 0 0 (1 : Int32))) hx hb hts hi_MO t_MO t_MO_ok n_MO hown hK xInj hX hS (xA_in _ _ _) (by decide) rfl rfl 0 (by decide) (hts _ w_595) rfl rfl rfl rfl (Nat.le_of_ble_eq_true rfl) ((xe_uI dA (xB s0) σ 15 0 0 (1 : Int32)).trans rfl) (xe_oI dA (xB s0) σ 15 0 0 (1 : Int32)) d_MO_throwing_35 (fun H locs hX hS => ?_)
    refine lv_aload_n hx hb d_MO_throwing_38 rfl (lv_at hl 0 rfl) ?_
    refine xw_get (C := R_MO) (T := F_MO) (N := 20) (r := 15) (i := 0) hx hb hts hi_MO hown hK hX (by decide) rfl rfl 0 (by decide) (hts _ w_595) rfl rfl d_MO_throwing_39 ?_
    refine lv_if_le (tgt := 49) hx hb d_MO_throwing_42 (by decide) (fun c42 => ?_) (fun c42 => ?_)
    · rw [if_pos c42] at hR
      refine lv_iconst (v := 0) hx hb d_MO_throwing_49 (by decide) ?_
      subst hR
      refine W.widen (k := 0) (n := 0) (by decide) (by decide) ?_; exact xs_z hx hb hr hlocks (by rfl) hX hS d_MO_throwing_50
    · rw [if_neg c42] at hR
      refine lv_iconst (v := 1) hx hb d_MO_throwing_45 (by decide) ?_
      refine lv_goto (tgt := 50) hx hb d_MO_throwing_46 (by decide) ?_
      subst hR
      refine W.widen (k := 0) (n := 0) (by decide) (by decide) ?_; exact xs_z hx hb hr hlocks (by rfl) hX hS d_MO_throwing_50

abbrev rm_MO_in : Room := { frames := 0, cells := 0, slots := 0, locals := 0 }
def S_MO_in (σ : XS) (x : Int32) (lo : Int32) (hi : Int32) : Int32 := (if x < lo then (0 : Int32) else (if hi < x then (0 : Int32) else (1 : Int32)))
set_option maxHeartbeats 4000000 in
set_option maxRecDepth 100000 in
theorem c_MO_in {l : Launch} {s0 : State} {A0 : Array Value} {D : va_G} {dA : Nat → ClassId} (h0 : XS0 l s0 A0 D dA) (σ : XS) (x : Int32) (lo : Int32) (hi : Int32)  : XMet l y_MO_in [cw_MO_in] rm_MO_in (XP D dA s0 σ [.int x, .int lo, .int hi]) (XQp xv_i (.inl (S_MO_in σ x lo hi))) 0 0 (fun _ => False) := by
  refine XMet.ofW (cc := b_MO_in) (maxL := 3) (ret := (some .boolean)) (by decide) rfl ?_
  intro p e s m args below meth c s₁ Bd hml hvA
  obtain ⟨rfl, hX, hO⟩ := hvA
  have hx := Bd.exec
  have hb := Bd.bytes
  have hr := Bd.returns
  have hown : s.vm.findClass "LoadChecksModel" = some m.cls := findClass_of_methodNamed Bd.named
  have hlocks := Bd.notSynchronized
  have hnt : c.exceptionTable.isEmpty = true := Bd.noHandlers (atoms_spec (ws := [cw_MO_in]) Bd.pre _ List.mem_cons_self)
  have hW0 := hO.1
  have hts := xs_w (args := ([.int x, .int lo, .int hi] : List Value).toArray) h0 hW0
  have hK := xs_K h0 hW0
  have hl := lv_entry ([.int x, .int lo, .int hi]) (n := 3) (Nat.le_of_ble_eq_true rfl)
  rw [lg_entry_eq]
  generalize (lg_sl ([.int x, .int lo, .int hi]) ++ List.replicate (3 - (lg_sl ([.int x, .int lo, .int hi])).length) Slot.unset).toArray = ls at hl ⊢
  have hl : lv_has ls 3 [(0, .int x), (1, .int lo), (2, .int hi)] := hl
  generalize hR : S_MO_in σ x lo hi = res
  unfold S_MO_in at hR
  refine lv_iload_n hx hb d_MO_in_0 rfl (lv_at hl 0 rfl) ?_
  refine lv_iload_n hx hb d_MO_in_1 rfl (lv_at hl 1 rfl) ?_
  refine lv_icmp_lt (tgt := 14) hx hb d_MO_in_2 (by decide) (fun c2 => ?_) (fun c2 => ?_)
  · rw [if_pos c2] at hR
    refine lv_iconst (v := 0) hx hb d_MO_in_14 (by decide) ?_
    subst hR
    refine W.widen (k := 0) (n := 0) (by decide) (by decide) ?_; exact xr_z hx hb hr hlocks (by rfl) d_MO_in_15
  · rw [if_neg c2] at hR
    refine lv_iload_n hx hb d_MO_in_5 rfl (lv_at hl 0 rfl) ?_
    refine lv_iload_n hx hb d_MO_in_6 rfl (lv_at hl 2 rfl) ?_
    refine lv_icmp_gt (tgt := 14) hx hb d_MO_in_7 (by decide) (fun c7 => ?_) (fun c7 => ?_)
    · rw [if_pos c7] at hR
      refine lv_iconst (v := 0) hx hb d_MO_in_14 (by decide) ?_
      subst hR
      refine W.widen (k := 0) (n := 0) (by decide) (by decide) ?_; exact xr_z hx hb hr hlocks (by rfl) d_MO_in_15
    · rw [if_neg c7] at hR
      refine lv_iconst (v := 1) hx hb d_MO_in_10 (by decide) ?_
      refine lv_goto (tgt := 15) hx hb d_MO_in_11 (by decide) ?_
      subst hR
      refine W.widen (k := 0) (n := 0) (by decide) (by decide) ?_; exact xr_z hx hb hr hlocks (by rfl) d_MO_in_15
