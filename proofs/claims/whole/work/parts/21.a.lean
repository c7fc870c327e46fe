abbrev rm_MO_vehicle : Room := { frames := 2, cells := 0, slots := 0, locals := 42 }
def L_MO_vehicle : Nat → XS → Int32 → Int32 × XS
  | 0, _, _ => default
  | n + 1, σ, x6 => (if (30 : Int32) ≤ x6 then ((((xuI σ 15 0 6 ((σ.1 15 0 6) + (1 : Int32))).1 15 0 6) - (1 : Int32)), (xuI σ 15 0 6 ((σ.1 15 0 6) + (1 : Int32)))) else (L_MO_vehicle n (xuI (xuI σ 26 0 (((30 : Int32) * (σ.1 15 0 6)) + x6).toNatClampNeg (-1 : Int32)) 27 0 (((30 : Int32) * ((xuI σ 26 0 (((30 : Int32) * (σ.1 15 0 6)) + x6).toNatClampNeg (-1 : Int32)).1 15 0 6)) + x6).toNatClampNeg (100 : Int32)) (x6 + 1)))
def S_MO_vehicle (σ : XS) (kd : Int32) (wb : Int32) (fr : Int32) (re : Int32) : Int32 × XS := (if (S_MO_in σ wb (1000 : Int32) (8000 : Int32)) = 0 then (if (S_MO_in σ kd (0 : Int32) (5 : Int32)) = 0 then (if (σ.1 15 0 6) = (16 : Int32) then ((0 : Int32), (S_MO_throwing σ (1 : Int32) (1 : Int32) (1 : Int32) (0 : Int32)).2) else ((0 : Int32), (S_MO_throwing σ (1 : Int32) (1 : Int32) (0 : Int32) (0 : Int32)).2)) else (if (σ.1 15 0 6) = (16 : Int32) then ((0 : Int32), (S_MO_throwing σ (0 : Int32) (1 : Int32) (1 : Int32) (0 : Int32)).2) else ((0 : Int32), (S_MO_throwing σ (0 : Int32) (1 : Int32) (0 : Int32) (0 : Int32)).2))) else (if (S_MO_isLimit σ fr) = 0 then (if (S_MO_in σ kd (0 : Int32) (5 : Int32)) = 0 then (if (σ.1 15 0 6) = (16 : Int32) then ((0 : Int32), (S_MO_throwing σ (1 : Int32) (1 : Int32) (1 : Int32) (0 : Int32)).2) else ((0 : Int32), (S_MO_throwing σ (1 : Int32) (1 : Int32) (0 : Int32) (0 : Int32)).2)) else (if (σ.1 15 0 6) = (16 : Int32) then ((0 : Int32), (S_MO_throwing σ (0 : Int32) (1 : Int32) (1 : Int32) (0 : Int32)).2) else ((0 : Int32), (S_MO_throwing σ (0 : Int32) (1 : Int32) (0 : Int32) (0 : Int32)).2))) else (if (S_MO_isLimit σ re) = 0 then (if (S_MO_in σ kd (0 : Int32) (5 : Int32)) = 0 then (if (σ.1 15 0 6) = (16 : Int32) then ((0 : Int32), (S_MO_throwing σ (1 : Int32) (1 : Int32) (1 : Int32) (0 : Int32)).2) else ((0 : Int32), (S_MO_throwing σ (1 : Int32) (1 : Int32) (0 : Int32) (0 : Int32)).2)) else (if (σ.1 15 0 6) = (16 : Int32) then ((0 : Int32), (S_MO_throwing σ (0 : Int32) (1 : Int32) (1 : Int32) (0 : Int32)).2) else ((0 : Int32), (S_MO_throwing σ (0 : Int32) (1 : Int32) (0 : Int32) (0 : Int32)).2))) else (if (S_MO_in σ kd (0 : Int32) (5 : Int32)) = 0 then (if (σ.1 15 0 6) = (16 : Int32) then ((0 : Int32), (S_MO_throwing σ (1 : Int32) (0 : Int32) (1 : Int32) (0 : Int32)).2) else ((0 : Int32), (S_MO_throwing σ (1 : Int32) (0 : Int32) (0 : Int32) (0 : Int32)).2)) else (if (σ.1 15 0 6) = (16 : Int32) then ((0 : Int32), (S_MO_throwing σ (0 : Int32) (0 : Int32) (1 : Int32) (0 : Int32)).2) else (L_MO_vehicle 31 (xuI (xuI (xuI (xuI (xuI (S_MO_throwing σ (0 : Int32) (0 : Int32) (0 : Int32) (0 : Int32)).2 19 0 (((S_MO_throwing σ (0 : Int32) (0 : Int32) (0 : Int32) (0 : Int32)).2).1 15 0 6).toNatClampNeg kd) 20 0 ((xuI (S_MO_throwing σ (0 : Int32) (0 : Int32) (0 : Int32) (0 : Int32)).2 19 0 (((S_MO_throwing σ (0 : Int32) (0 : Int32) (0 : Int32) (0 : Int32)).2).1 15 0 6).toNatClampNeg kd).1 15 0 6).toNatClampNeg wb) 21 0 ((xuI (xuI (S_MO_throwing σ (0 : Int32) (0 : Int32) (0 : Int32) (0 : Int32)).2 19 0 (((S_MO_throwing σ (0 : Int32) (0 : Int32) (0 : Int32) (0 : Int32)).2).1 15 0 6).toNatClampNeg kd) 20 0 ((xuI (S_MO_throwing σ (0 : Int32) (0 : Int32) (0 : Int32) (0 : Int32)).2 19 0 (((S_MO_throwing σ (0 : Int32) (0 : Int32) (0 : Int32) (0 : Int32)).2).1 15 0 6).toNatClampNeg kd).1 15 0 6).toNatClampNeg wb).1 15 0 6).toNatClampNeg fr) 22 0 ((xuI (xuI (xuI (S_MO_throwing σ (0 : Int32) (0 : Int32) (0 : Int32) (0 : Int32)).2 19 0 (((S_MO_throwing σ (0 : Int32) (0 : Int32) (0 : Int32) (0 : Int32)).2).1 15 0 6).toNatClampNeg kd) 20 0 ((xuI (S_MO_throwing σ (0 : Int32) (0 : Int32) (0 : Int32) (0 : Int32)).2 19 0 (((S_MO_throwing σ (0 : Int32) (0 : Int32) (0 : Int32) (0 : Int32)).2).1 15 0 6).toNatClampNeg kd).1 15 0 6).toNatClampNeg wb) 21 0 ((xuI (xuI (S_MO_throwing σ (0 : Int32) (0 : Int32) (0 : Int32) (0 : Int32)).2 19 0 (((S_MO_throwing σ (0 : Int32) (0 : Int32) (0 : Int32) (0 : Int32)).2).1 15 0 6).toNatClampNeg kd) 20 0 ((xuI (S_MO_throwing σ (0 : Int32) (0 : Int32) (0 : Int32) (0 : Int32)).2 19 0 (((S_MO_throwing σ (0 : Int32) (0 : Int32) (0 : Int32) (0 : Int32)).2).1 15 0 6).toNatClampNeg kd).1 15 0 6).toNatClampNeg wb).1 15 0 6).toNatClampNeg fr).1 15 0 6).toNatClampNeg re) 23 0 ((xuI (xuI (xuI (xuI (S_MO_throwing σ (0 : Int32) (0 : Int32) (0 : Int32) (0 : Int32)).2 19 0 (((S_MO_throwing σ (0 : Int32) (0 : Int32) (0 : Int32) (0 : Int32)).2).1 15 0 6).toNatClampNeg kd) 20 0 ((xuI (S_MO_throwing σ (0 : Int32) (0 : Int32) (0 : Int32) (0 : Int32)).2 19 0 (((S_MO_throwing σ (0 : Int32) (0 : Int32) (0 : Int32) (0 : Int32)).2).1 15 0 6).toNatClampNeg kd).1 15 0 6).toNatClampNeg wb) 21 0 ((xuI (xuI (S_MO_throwing σ (0 : Int32) (0 : Int32) (0 : Int32) (0 : Int32)).2 19 0 (((S_MO_throwing σ (0 : Int32) (0 : Int32) (0 : Int32) (0 : Int32)).2).1 15 0 6).toNatClampNeg kd) 20 0 ((xuI (S_MO_throwing σ (0 : Int32) (0 : Int32) (0 : Int32) (0 : Int32)).2 19 0 (((S_MO_throwing σ (0 : Int32) (0 : Int32) (0 : Int32) (0 : Int32)).2).1 15 0 6).toNatClampNeg kd).1 15 0 6).toNatClampNeg wb).1 15 0 6).toNatClampNeg fr) 22 0 ((xuI (xuI (xuI (S_MO_throwing σ (0 : Int32) (0 : Int32) (0 : Int32) (0 : Int32)).2 19 0 (((S_MO_throwing σ (0 : Int32) (0 : Int32) (0 : Int32) (0 : Int32)).2).1 15 0 6).toNatClampNeg kd) 20 0 ((xuI (S_MO_throwing σ (0 : Int32) (0 : Int32) (0 : Int32) (0 : Int32)).2 19 0 (((S_MO_throwing σ (0 : Int32) (0 : Int32) (0 : Int32) (0 : Int32)).2).1 15 0 6).toNatClampNeg kd).1 15 0 6).toNatClampNeg wb) 21 0 ((xuI (xuI (S_MO_throwing σ (0 : Int32) (0 : Int32) (0 : Int32) (0 : Int32)).2 19 0 (((S_MO_throwing σ (0 : Int32) (0 : Int32) (0 : Int32) (0 : Int32)).2).1 15 0 6).toNatClampNeg kd) 20 0 ((xuI (S_MO_throwing σ (0 : Int32) (0 : Int32) (0 : Int32) (0 : Int32)).2 19 0 (((S_MO_throwing σ (0 : Int32) (0 : Int32) (0 : Int32) (0 : Int32)).2).1 15 0 6).toNatClampNeg kd).1 15 0 6).toNatClampNeg wb).1 15 0 6).toNatClampNeg fr).1 15 0 6).toNatClampNeg re).1 15 0 6).toNatClampNeg (-1 : Int32)) (0 : Int32)))))))
set_option maxHeartbeats 4000000 in
set_option maxRecDepth 100000 in
theorem l_MO_vehicle {l : Launch} {s0 : State} {A0 : Array Value} {D : va_G} {dA : Nat → ClassId} (h0 : XS0 l s0 A0 D dA) {p : Program} {e : Env} {s : State} {m : MethodId} {args : Array Value} {below : List Frame} {meth : Method} {c : Code} (hx : p.tables.exec = Jvm.exec) (hb : c.code = b_MO_vehicle) (hr : meth.sig.returnType = (some .int)) (hml : c.maxLocals = 7) (hown : s.vm.findClass "LoadChecksModel" = some m.cls) (hlocks : meth.locks = false) (hnt : c.exceptionTable.isEmpty = true) (hO : XO s0 s s.heap) :
    ∀ (n : Nat) (σ : XS) (x6 : Int32) (k : Nat), x6 = nI k → k + n = 31 → k < 31 → vp_in (σ.1 15 0 6) 16 → ∀ {H : Heap} {locs : List Loc}, XWs D dA s0 σ H → va_S (xAm s0) s0.heap H locs → ∀ (ls : Array Slot), lv_has ls 7 [(0, .ref (xB s0 + XA 15 0)), (6, .int x6)] → ∀ res, L_MO_vehicle n σ x6 = res →
    W p l e rm_MO_vehicle s m args below meth c H locs 0 0 (XMQ below (XQs D dA s0 xv_i (.inl res)) args s 0 0 (xAm s0)) (F0 m 129 ls []) := by
  have hW0 := hO.1
  have hts := xs_w (args := args) h0 hW0
  have hK := xs_K h0 hW0
  intro n
  induction n with
  | zero =>
    intro σ x6 k e1 h2 h3
    exact absurd h2 (by omega)
  | succ n ih =>
    intro σ x6 k e_x6 hkn hkF hvv H locs hX hS ls hl res hR
    rw [L_MO_vehicle] at hR
    refine lv_iload hx hb d_MO_vehicle_129 (lv_at hl 1 rfl) ?_
    refine lv_bipush (v := 30) hx hb d_MO_vehicle_131 (by decide) ?_
    refine lv_icmp_ge (tgt := 175) hx hb d_MO_vehicle_133 (by decide) (fun c133 => ?_) (fun c133 => ?_)
    · rw [if_pos c133] at hR
      refine lv_aload_n hx hb d_MO_vehicle_175 rfl (lv_at hl 0 rfl) ?_
      refine lv_dup hx hb d_MO_vehicle_176 rfl ?_
      refine xw_get (C := R_MO) (T := F_MO) (N := 20) (r := 15) (i := 0) hx hb hts hi_MO hown hK hX (by decide) rfl rfl 6 (by decide) (hts _ w_601) rfl rfl d_MO_vehicle_177 ?_
      refine lv_iconst (v := 1) hx hb d_MO_vehicle_180 (by decide) ?_
      refine lv_iadd hx hb d_MO_vehicle_181 ?_
      refine xw_put (C := R_MO) (T := F_MO) (N := 20) (r := 15) (i := 0) (ent' := XE dA (xB s0) (xuI σ 15 0 6 ((σ.1 15 0 6) + (1 : Int32)))) hx hb hts hi_MO t_MO t_MO_ok n_MO hown hK xInj hX hS (xA_in _ _ _) (by decide) rfl rfl 6 (by decide) (hts _ w_601) rfl rfl rfl rfl (Nat.le_of_ble_eq_true rfl) ((xe_uI dA (xB s0) σ 15 0 6 ((σ.1 15 0 6) + (1 : Int32))).trans rfl) (xe_oI dA (xB s0) σ 15 0 6 ((σ.1 15 0 6) + (1 : Int32))) d_MO_vehicle_182 (fun H locs hX hS => ?_)
      refine lv_aload_n hx hb d_MO_vehicle_185 rfl (lv_at hl 0 rfl) ?_
      refine xw_get (C := R_MO) (T := F_MO) (N := 20) (r := 15) (i := 0) hx hb hts hi_MO hown hK hX (by decide) rfl rfl 6 (by decide) (hts _ w_601) rfl rfl d_MO_vehicle_186 ?_
      refine lv_iconst (v := 1) hx hb d_MO_vehicle_189 (by decide) ?_
      refine lv_isub hx hb d_MO_vehicle_190 ?_
      subst hR
      refine W.widen (k := 0) (n := 0) (by decide) (by decide) ?_; exact xs_i hx hb hr hlocks hX hS d_MO_vehicle_191
    · rw [if_neg c133] at hR
      have hq : k < 30 := x_klt (b := 30) rfl (by decide) (by omega) e_x6 c133
      have hkx : vp_in x6 30 := o_nI e_x6 hq (by decide)
      refine lv_aload_n hx hb d_MO_vehicle_136 rfl (lv_at hl 0 rfl) ?_
      refine xw_get (C := R_MO) (T := F_MO) (N := 20) (r := 15) (i := 0) hx hb hts hi_MO hown hK hX (by decide) rfl rfl 14 (by decide) (hts _ w_609) rfl rfl d_MO_vehicle_137 ?_
      refine lv_bipush (v := 30) hx hb d_MO_vehicle_140 (by decide) ?_
      refine lv_aload_n hx hb d_MO_vehicle_142 rfl (lv_at hl 0 rfl) ?_
      refine xw_get (C := R_MO) (T := F_MO) (N := 20) (r := 15) (i := 0) hx hb hts hi_MO hown hK hX (by decide) rfl rfl 6 (by decide) (hts _ w_601) rfl rfl d_MO_vehicle_143 ?_
      refine lv_imul hx hb d_MO_vehicle_146 ?_
      refine lv_iload hx hb d_MO_vehicle_147 (lv_at hl 1 rfl) ?_
      refine lv_iadd hx hb d_MO_vehicle_149 ?_
      refine lv_iconst (v := -1) hx hb d_MO_vehicle_150 (by decide) ?_
      refine xw_iast (r := 26) (i := 0) (ent' := XE dA (xB s0) (xuI σ 26 0 (((30 : Int32) * (σ.1 15 0 6)) + x6).toNatClampNeg (-1 : Int32))) hx hb hK xInj hX hS (xA_in _ _ _) (by decide) 0 rfl rfl (j := (((30 : Int32) * (σ.1 15 0 6)) + x6)) (o_30 hvv hkx) ((xe_uI dA (xB s0) σ 26 0 (((30 : Int32) * (σ.1 15 0 6)) + x6).toNatClampNeg (-1 : Int32)).trans rfl) (xe_oI dA (xB s0) σ 26 0 (((30 : Int32) * (σ.1 15 0 6)) + x6).toNatClampNeg (-1 : Int32)) d_MO_vehicle_151 (fun H locs hX hS => ?_)
      refine lv_aload_n hx hb d_MO_vehicle_152 rfl (lv_at hl 0 rfl) ?_
      refine xw_get (C := R_MO) (T := F_MO) (N := 20) (r := 15) (i := 0) hx hb hts hi_MO hown hK hX (by decide) rfl rfl 15 (by decide) (hts _ w_610) rfl rfl d_MO_vehicle_153 ?_
      refine lv_bipush (v := 30) hx hb d_MO_vehicle_156 (by decide) ?_
      refine lv_aload_n hx hb d_MO_vehicle_158 rfl (lv_at hl 0 rfl) ?_
      refine xw_get (C := R_MO) (T := F_MO) (N := 20) (r := 15) (i := 0) hx hb hts hi_MO hown hK hX (by decide) rfl rfl 6 (by decide) (hts _ w_601) rfl rfl d_MO_vehicle_159 ?_
      refine lv_imul hx hb d_MO_vehicle_162 ?_
      refine lv_iload hx hb d_MO_vehicle_163 (lv_at hl 1 rfl) ?_
      refine lv_iadd hx hb d_MO_vehicle_165 ?_
      refine lv_bipush (v := 100) hx hb d_MO_vehicle_166 (by decide) ?_
      refine xw_iast (r := 27) (i := 0) (ent' := XE dA (xB s0) (xuI (xuI σ 26 0 (((30 : Int32) * (σ.1 15 0 6)) + x6).toNatClampNeg (-1 : Int32)) 27 0 (((30 : Int32) * ((xuI σ 26 0 (((30 : Int32) * (σ.1 15 0 6)) + x6).toNatClampNeg (-1 : Int32)).1 15 0 6)) + x6).toNatClampNeg (100 : Int32))) hx hb hK xInj hX hS (xA_in _ _ _) (by decide) 0 rfl rfl (j := (((30 : Int32) * ((xuI σ 26 0 (((30 : Int32) * (σ.1 15 0 6)) + x6).toNatClampNeg (-1 : Int32)).1 15 0 6)) + x6)) (o_30 hvv hkx) ((xe_uI dA (xB s0) (xuI σ 26 0 (((30 : Int32) * (σ.1 15 0 6)) + x6).toNatClampNeg (-1 : Int32)) 27 0 (((30 : Int32) * ((xuI σ 26 0 (((30 : Int32) * (σ.1 15 0 6)) + x6).toNatClampNeg (-1 : Int32)).1 15 0 6)) + x6).toNatClampNeg (100 : Int32)).trans rfl) (xe_oI dA (xB s0) (xuI σ 26 0 (((30 : Int32) * (σ.1 15 0 6)) + x6).toNatClampNeg (-1 : Int32)) 27 0 (((30 : Int32) * ((xuI σ 26 0 (((30 : Int32) * (σ.1 15 0 6)) + x6).toNatClampNeg (-1 : Int32)).1 15 0 6)) + x6).toNatClampNeg (100 : Int32)) d_MO_vehicle_168 (fun H locs hX hS => ?_)
      refine lv_iinc (v := (x6 + 1)) (lv' := [(6, .int (x6 + 1)), (0, .ref (xB s0 + XA 15 0))]) hx hb d_MO_vehicle_169 hl (k := 1) rfl rfl (by decide) rfl (fun ls hl => ?_)
      refine lv_goto (tgt := 129) hx hb d_MO_vehicle_172 (by decide) ?_
      exact ih (xuI (xuI σ 26 0 (((30 : Int32) * (σ.1 15 0 6)) + x6).toNatClampNeg (-1 : Int32)) 27 0 (((30 : Int32) * ((xuI σ 26 0 (((30 : Int32) * (σ.1 15 0 6)) + x6).toNatClampNeg (-1 : Int32)).1 15 0 6)) + x6).toNatClampNeg (100 : Int32)) (x6 + 1) (k + 1) (by rw [e_x6]; exact nI_1 k) (by omega) (by omega)  hvv hX hS ls (lv_sub hl [1, 0] rfl) res hR
set_option maxHeartbeats 4000000 in
set_option maxRecDepth 100000 in
theorem c_MO_vehicle {l : Launch} {s0 : State} {A0 : Array Value} {D : va_G} {dA : Nat → ClassId} (h0 : XS0 l s0 A0 D dA) (σ : XS) (kd : Int32) (wb : Int32) (fr : Int32) (re : Int32) (hok : MOk σ) : XMet l y_MO_vehicle [cw_MO_vehicle] rm_MO_vehicle (XP D dA s0 σ [.ref (xB s0 + XA 15 0), .int kd, .int wb, .int fr, .int re]) (XQs D dA s0 xv_i (.inl (S_MO_vehicle σ kd wb fr re))) 0 0 (xAm s0) := by
  refine XMet.ofW (cc := b_MO_vehicle) (maxL := 7) (ret := (some .int)) (by decide) rfl ?_
  intro p e s m args below meth c s₁ Bd hml hvA
  obtain ⟨rfl, hX, hO⟩ := hvA
  have hx := Bd.exec
  have hb := Bd.bytes
  have hr := Bd.returns
  have hown : s.vm.findClass "LoadChecksModel" = some m.cls := findClass_of_methodNamed Bd.named
  have hlocks := Bd.notSynchronized
  have hnt : c.exceptionTable.isEmpty = true := Bd.noHandlers (atoms_spec (ws := [cw_MO_vehicle]) Bd.pre _ List.mem_cons_self)
  have hW0 := hO.1
  have hts := xs_w (args := ([.ref (xB s0 + XA 15 0), .int kd, .int wb, .int fr, .int re] : List Value).toArray) h0 hW0
  have hK := xs_K h0 hW0
  have hS := xo_S0 hO
  have hl := lv_entry ([.ref (xB s0 + XA 15 0), .int kd, .int wb, .int fr, .int re]) (n := 7) (Nat.le_of_ble_eq_true rfl)
  rw [lg_entry_eq]
  generalize (lg_sl ([.ref (xB s0 + XA 15 0), .int kd, .int wb, .int fr, .int re]) ++ List.replicate (7 - (lg_sl ([.ref (xB s0 + XA 15 0), .int kd, .int wb, .int fr, .int re])).length) Slot.unset).toArray = ls at hl ⊢
  have hl : lv_has ls 7 [(0, .ref (xB s0 + XA 15 0)), (1, .int kd), (2, .int wb), (3, .int fr), (4, .int re)] := hl
  generalize hR : S_MO_vehicle σ kd wb fr re = res
  unfold S_MO_vehicle at hR
  refine lv_iload_n hx hb d_MO_vehicle_0 rfl (lv_at hl 2 rfl) ?_
  refine lv_sipush (v := 1000) hx hb d_MO_vehicle_1 (by decide) ?_
  refine lv_sipush (v := 8000) hx hb d_MO_vehicle_4 (by decide) ?_
  refine xc_f (rest := []) (x_invS (argsL := [.int wb, .int (1000 : Int32), .int (8000 : Int32)]) hx hb hown (hts _ w_664) (hts _ w_665) (hts _ w_38) (x_code (hts _ w_666)) ⟨by decide, by decide⟩ rfl rfl rfl d_MO_vehicle_7) (c_MO_in h0 σ wb (1000 : Int32) (8000 : Int32)) (xs_cw h0 hW0 m_666) (hts _ w_38) ⟨rfl, rfl, Nat.le_of_ble_eq_true rfl, Nat.le_of_ble_eq_true rfl⟩ (hl.1.trans hml.symm) (by rw [hb]; exact d_MO_vehicle_7) (Nat.le_of_ble_eq_true rfl) ⟨Nat.le_of_ble_eq_true rfl, Nat.le_of_ble_eq_true rfl⟩ hX ⟨hW0, xo_S hS⟩ ?_
  refine lv_if_eq (tgt := 28) hx hb d_MO_vehicle_10 (by decide) (fun c10 => ?_) (fun c10 => ?_)
  · rw [if_pos c10] at hR
    refine lv_iconst (v := 1) hx hb d_MO_vehicle_28 (by decide) ?_
    refine lv_goto (tgt := 33) hx hb d_MO_vehicle_29 (by decide) ?_
    refine lv_istore (lv' := [(5, .int (1 : Int32)), (0, .ref (xB s0 + XA 15 0)), (1, .int kd), (2, .int wb), (3, .int fr), (4, .int re)]) hx hb d_MO_vehicle_33 hl (by decide) rfl (fun ls hl => ?_)
    refine lv_aload_n hx hb d_MO_vehicle_35 rfl (lv_at hl 1 rfl) ?_
    refine lv_iload_n hx hb d_MO_vehicle_36 rfl (lv_at hl 2 rfl) ?_
    refine lv_iconst (v := 0) hx hb d_MO_vehicle_37 (by decide) ?_
    refine lv_iconst (v := 5) hx hb d_MO_vehicle_38 (by decide) ?_
    refine xc_f (rest := [.ref (xB s0 + XA 15 0)]) (x_invS (argsL := [.int kd, .int (0 : Int32), .int (5 : Int32)]) hx hb hown (hts _ w_664) (hts _ w_665) (hts _ w_38) (x_code (hts _ w_666)) ⟨by decide, by decide⟩ rfl rfl rfl d_MO_vehicle_39) (c_MO_in h0 σ kd (0 : Int32) (5 : Int32)) (xs_cw h0 hW0 m_666) (hts _ w_38) ⟨rfl, rfl, Nat.le_of_ble_eq_true rfl, Nat.le_of_ble_eq_true rfl⟩ (hl.1.trans hml.symm) (by rw [hb]; exact d_MO_vehicle_39) (Nat.le_of_ble_eq_true rfl) ⟨Nat.le_of_ble_eq_true rfl, Nat.le_of_ble_eq_true rfl⟩ hX ⟨hW0, xo_S hS⟩ ?_
    refine lv_if_ne (tgt := 49) hx hb d_MO_vehicle_42 (by decide) (fun c42 => ?_) (fun c42 => ?_)
    · rw [if_neg c42] at hR
      refine lv_iconst (v := 0) hx hb d_MO_vehicle_49 (by decide) ?_
      refine lv_iload hx hb d_MO_vehicle_50 (lv_at hl 0 rfl) ?_
      refine lv_aload_n hx hb d_MO_vehicle_52 rfl (lv_at hl 1 rfl) ?_
      refine xw_get (C := R_MO) (T := F_MO) (N := 20) (r := 15) (i := 0) hx hb hts hi_MO hown hK hX (by decide) rfl rfl 6 (by decide) (hts _ w_601) rfl rfl d_MO_vehicle_53 ?_
      refine lv_bipush (v := 16) hx hb d_MO_vehicle_56 (by decide) ?_
      refine lv_icmp_ne (tgt := 65) hx hb d_MO_vehicle_58 (by decide) (fun c58 => ?_) (fun c58 => ?_)
      · rw [if_neg c58] at hR
        have hvv := o_mv hok c58
        refine lv_iconst (v := 0) hx hb d_MO_vehicle_65 (by decide) ?_
        refine lv_iconst (v := 0) hx hb d_MO_vehicle_66 (by decide) ?_
        obtain ⟨cB67, hcB67, hoB67, hkB67⟩ := xw_recv (r := 15) (i := 0) hK hX (by decide) rfl rfl
        refine xc_s (rest := []) (x_invV (argsL := [.int (0 : Int32), .int (1 : Int32), .int (0 : Int32), .int (0 : Int32)]) hx hb hown (hts _ w_671) (hts _ w_673) (hts _ w_20) (x_code (hts _ w_674)) ⟨by decide, by decide⟩ hcB67 hoB67 hkB67 rfl rfl rfl d_MO_vehicle_67) (c_MO_throwing h0 σ (0 : Int32) (1 : Int32) (0 : Int32) (0 : Int32)) (xs_cw h0 hW0 m_674) (hts _ w_38) ⟨rfl, rfl, Nat.le_of_ble_eq_true rfl, Nat.le_of_ble_eq_true rfl⟩ (hl.1.trans hml.symm) (by rw [hb]; exact d_MO_vehicle_67) (Nat.le_of_ble_eq_true rfl) ⟨Nat.le_of_ble_eq_true rfl, Nat.le_of_ble_eq_true rfl⟩ hX hW0 hS (fun v67 σ67 H locs hM67 hX hS => ?_) (fun E x H1 locs1 hM => by cases hM)
        obtain ⟨ev67, es67⟩ := x_inl hM67
        subst es67
        subst ev67
        refine lv_if_eq (tgt := 75) hx hb d_MO_vehicle_70 (by decide) (fun c70 => ?_) (fun c70 => ?_)
        · exact absurd c70 (thr_n2 (by decide))
        · refine lv_iconst (v := 0) hx hb d_MO_vehicle_73 (by decide) ?_
          subst hR
          refine W.widen (k := 0) (n := 0) (by decide) (by decide) ?_; exact xs_i hx hb hr hlocks hX hS d_MO_vehicle_74
      · rw [if_pos c58] at hR
        refine lv_iconst (v := 1) hx hb d_MO_vehicle_61 (by decide) ?_
        refine lv_goto (tgt := 66) hx hb d_MO_vehicle_62 (by decide) ?_
        refine lv_iconst (v := 0) hx hb d_MO_vehicle_66 (by decide) ?_
        obtain ⟨cB67, hcB67, hoB67, hkB67⟩ := xw_recv (r := 15) (i := 0) hK hX (by decide) rfl rfl
        refine xc_s (rest := []) (x_invV (argsL := [.int (0 : Int32), .int (1 : Int32), .int (1 : Int32), .int (0 : Int32)]) hx hb hown (hts _ w_671) (hts _ w_673) (hts _ w_20) (x_code (hts _ w_674)) ⟨by decide, by decide⟩ hcB67 hoB67 hkB67 rfl rfl rfl d_MO_vehicle_67) (c_MO_throwing h0 σ (0 : Int32) (1 : Int32) (1 : Int32) (0 : Int32)) (xs_cw h0 hW0 m_674) (hts _ w_38) ⟨rfl, rfl, Nat.le_of_ble_eq_true rfl, Nat.le_of_ble_eq_true rfl⟩ (hl.1.trans hml.symm) (by rw [hb]; exact d_MO_vehicle_67) (Nat.le_of_ble_eq_true rfl) ⟨Nat.le_of_ble_eq_true rfl, Nat.le_of_ble_eq_true rfl⟩ hX hW0 hS (fun v67 σ67 H locs hM67 hX hS => ?_) (fun E x H1 locs1 hM => by cases hM)
        obtain ⟨ev67, es67⟩ := x_inl hM67
        subst es67
        subst ev67
        refine lv_if_eq (tgt := 75) hx hb d_MO_vehicle_70 (by decide) (fun c70 => ?_) (fun c70 => ?_)
        · exact absurd c70 (thr_n2 (by decide))
        · refine lv_iconst (v := 0) hx hb d_MO_vehicle_73 (by decide) ?_
          subst hR
          refine W.widen (k := 0) (n := 0) (by decide) (by decide) ?_; exact xs_i hx hb hr hlocks hX hS d_MO_vehicle_74
    · rw [if_pos c42] at hR
      refine lv_iconst (v := 1) hx hb d_MO_vehicle_45 (by decide) ?_
      refine lv_goto (tgt := 50) hx hb d_MO_vehicle_46 (by decide) ?_
      refine lv_iload hx hb d_MO_vehicle_50 (lv_at hl 0 rfl) ?_
      refine lv_aload_n hx hb d_MO_vehicle_52 rfl (lv_at hl 1 rfl) ?_
      refine xw_get (C := R_MO) (T := F_MO) (N := 20) (r := 15) (i := 0) hx hb hts hi_MO hown hK hX (by decide) rfl rfl 6 (by decide) (hts _ w_601) rfl rfl d_MO_vehicle_53 ?_
      refine lv_bipush (v := 16) hx hb d_MO_vehicle_56 (by decide) ?_
      refine lv_icmp_ne (tgt := 65) hx hb d_MO_vehicle_58 (by decide) (fun c58 => ?_) (fun c58 => ?_)
      · rw [if_neg c58] at hR
        have hvv := o_mv hok c58
        refine lv_iconst (v := 0) hx hb d_MO_vehicle_65 (by decide) ?_
        refine lv_iconst (v := 0) hx hb d_MO_vehicle_66 (by decide) ?_
        obtain ⟨cB67, hcB67, hoB67, hkB67⟩ := xw_recv (r := 15) (i := 0) hK hX (by decide) rfl rfl
        refine xc_s (rest := []) (x_invV (argsL := [.int (1 : Int32), .int (1 : Int32), .int (0 : Int32), .int (0 : Int32)]) hx hb hown (hts _ w_671) (hts _ w_673) (hts _ w_20) (x_code (hts _ w_674)) ⟨by decide, by decide⟩ hcB67 hoB67 hkB67 rfl rfl rfl d_MO_vehicle_67) (c_MO_throwing h0 σ (1 : Int32) (1 : Int32) (0 : Int32) (0 : Int32)) (xs_cw h0 hW0 m_674) (hts _ w_38) ⟨rfl, rfl, Nat.le_of_ble_eq_true rfl, Nat.le_of_ble_eq_true rfl⟩ (hl.1.trans hml.symm) (by rw [hb]; exact d_MO_vehicle_67) (Nat.le_of_ble_eq_true rfl) ⟨Nat.le_of_ble_eq_true rfl, Nat.le_of_ble_eq_true rfl⟩ hX hW0 hS (fun v67 σ67 H locs hM67 hX hS => ?_) (fun E x H1 locs1 hM => by cases hM)
        obtain ⟨ev67, es67⟩ := x_inl hM67
        subst es67
        subst ev67
        refine lv_if_eq (tgt := 75) hx hb d_MO_vehicle_70 (by decide) (fun c70 => ?_) (fun c70 => ?_)
        · exact absurd c70 (thr_n1 (by decide))
        · refine lv_iconst (v := 0) hx hb d_MO_vehicle_73 (by decide) ?_
          subst hR
          refine W.widen (k := 0) (n := 0) (by decide) (by decide) ?_; exact xs_i hx hb hr hlocks hX hS d_MO_vehicle_74
      · rw [if_pos c58] at hR
        refine lv_iconst (v := 1) hx hb d_MO_vehicle_61 (by decide) ?_
        refine lv_goto (tgt := 66) hx hb d_MO_vehicle_62 (by decide) ?_
        refine lv_iconst (v := 0) hx hb d_MO_vehicle_66 (by decide) ?_
        obtain ⟨cB67, hcB67, hoB67, hkB67⟩ := xw_recv (r := 15) (i := 0) hK hX (by decide) rfl rfl
        refine xc_s (rest := []) (x_invV (argsL := [.int (1 : Int32), .int (1 : Int32), .int (1 : Int32), .int (0 : Int32)]) hx hb hown (hts _ w_671) (hts _ w_673) (hts _ w_20) (x_code (hts _ w_674)) ⟨by decide, by decide⟩ hcB67 hoB67 hkB67 rfl rfl rfl d_MO_vehicle_67) (c_MO_throwing h0 σ (1 : Int32) (1 : Int32) (1 : Int32) (0 : Int32)) (xs_cw h0 hW0 m_674) (hts _ w_38) ⟨rfl, rfl, Nat.le_of_ble_eq_true rfl, Nat.le_of_ble_eq_true rfl⟩ (hl.1.trans hml.symm) (by rw [hb]; exact d_MO_vehicle_67) (Nat.le_of_ble_eq_true rfl) ⟨Nat.le_of_ble_eq_true rfl, Nat.le_of_ble_eq_true rfl⟩ hX hW0 hS (fun v67 σ67 H locs hM67 hX hS => ?_) (fun E x H1 locs1 hM => by cases hM)
        obtain ⟨ev67, es67⟩ := x_inl hM67
        subst es67
        subst ev67
        refine lv_if_eq (tgt := 75) hx hb d_MO_vehicle_70 (by decide) (fun c70 => ?_) (fun c70 => ?_)
        · exact absurd c70 (thr_n1 (by decide))
        · refine lv_iconst (v := 0) hx hb d_MO_vehicle_73 (by decide) ?_
          subst hR
          refine W.widen (k := 0) (n := 0) (by decide) (by decide) ?_; exact xs_i hx hb hr hlocks hX hS d_MO_vehicle_74
  · rw [if_neg c10] at hR
    refine lv_iload_n hx hb d_MO_vehicle_13 rfl (lv_at hl 3 rfl) ?_
    refine xc_f (rest := []) (x_invS (argsL := [.int fr]) hx hb hown (hts _ w_667) (hts _ w_668) (hts _ w_38) (x_code (hts _ w_669)) ⟨by decide, by decide⟩ rfl rfl rfl d_MO_vehicle_14) (c_MO_isLimit h0 σ fr) (xs_cw h0 hW0 m_669) (hts _ w_38) ⟨rfl, rfl, Nat.le_of_ble_eq_true rfl, Nat.le_of_ble_eq_true rfl⟩ (hl.1.trans hml.symm) (by rw [hb]; exact d_MO_vehicle_14) (Nat.le_of_ble_eq_true rfl) ⟨Nat.le_of_ble_eq_true rfl, Nat.le_of_ble_eq_true rfl⟩ hX ⟨hW0, xo_S hS⟩ ?_
    refine lv_if_eq (tgt := 28) hx hb d_MO_vehicle_17 (by decide) (fun c17 => ?_) (fun c17 => ?_)
    · rw [if_pos c17] at hR
      refine lv_iconst (v := 1) hx hb d_MO_vehicle_28 (by decide) ?_
      refine lv_goto (tgt := 33) hx hb d_MO_vehicle_29 (by decide) ?_
      refine lv_istore (lv' := [(5, .int (1 : Int32)), (0, .ref (xB s0 + XA 15 0)), (1, .int kd), (2, .int wb), (3, .int fr), (4, .int re)]) hx hb d_MO_vehicle_33 hl (by decide) rfl (fun ls hl => ?_)
      refine lv_aload_n hx hb d_MO_vehicle_35 rfl (lv_at hl 1 rfl) ?_
      refine lv_iload_n hx hb d_MO_vehicle_36 rfl (lv_at hl 2 rfl) ?_
      refine lv_iconst (v := 0) hx hb d_MO_vehicle_37 (by decide) ?_
      refine lv_iconst (v := 5) hx hb d_MO_vehicle_38 (by decide) ?_
      refine xc_f (rest := [.ref (xB s0 + XA 15 0)]) (x_invS (argsL := [.int kd, .int (0 : Int32), .int (5 : Int32)]) hx hb hown (hts _ w_664) (hts _ w_665) (hts _ w_38) (x_code (hts _ w_666)) ⟨by decide, by decide⟩ rfl rfl rfl d_MO_vehicle_39) (c_MO_in h0 σ kd (0 : Int32) (5 : Int32)) (xs_cw h0 hW0 m_666) (hts _ w_38) ⟨rfl, rfl, Nat.le_of_ble_eq_true rfl, Nat.le_of_ble_eq_true rfl⟩ (hl.1.trans hml.symm) (by rw [hb]; exact d_MO_vehicle_39) (Nat.le_of_ble_eq_true rfl) ⟨Nat.le_of_ble_eq_true rfl, Nat.le_of_ble_eq_true rfl⟩ hX ⟨hW0, xo_S hS⟩ ?_
      refine lv_if_ne (tgt := 49) hx hb d_MO_vehicle_42 (by decide) (fun c42 => ?_) (fun c42 => ?_)
      · rw [if_neg c42] at hR
        refine lv_iconst (v := 0) hx hb d_MO_vehicle_49 (by decide) ?_
        refine lv_iload hx hb d_MO_vehicle_50 (lv_at hl 0 rfl) ?_
        refine lv_aload_n hx hb d_MO_vehicle_52 rfl (lv_at hl 1 rfl) ?_
        refine xw_get (C := R_MO) (T := F_MO) (N := 20) (r := 15) (i := 0) hx hb hts hi_MO hown hK hX (by decide) rfl rfl 6 (by decide) (hts _ w_601) rfl rfl d_MO_vehicle_53 ?_
        refine lv_bipush (v := 16) hx hb d_MO_vehicle_56 (by decide) ?_
        refine lv_icmp_ne (tgt := 65) hx hb d_MO_vehicle_58 (by decide) (fun c58 => ?_) (fun c58 => ?_)
        · rw [if_neg c58] at hR
          have hvv := o_mv hok c58
          refine lv_iconst (v := 0) hx hb d_MO_vehicle_65 (by decide) ?_
          refine lv_iconst (v := 0) hx hb d_MO_vehicle_66 (by decide) ?_
          obtain ⟨cB67, hcB67, hoB67, hkB67⟩ := xw_recv (r := 15) (i := 0) hK hX (by decide) rfl rfl
          refine xc_s (rest := []) (x_invV (argsL := [.int (0 : Int32), .int (1 : Int32), .int (0 : Int32), .int (0 : Int32)]) hx hb hown (hts _ w_671) (hts _ w_673) (hts _ w_20) (x_code (hts _ w_674)) ⟨by decide, by decide⟩ hcB67 hoB67 hkB67 rfl rfl rfl d_MO_vehicle_67) (c_MO_throwing h0 σ (0 : Int32) (1 : Int32) (0 : Int32) (0 : Int32)) (xs_cw h0 hW0 m_674) (hts _ w_38) ⟨rfl, rfl, Nat.le_of_ble_eq_true rfl, Nat.le_of_ble_eq_true rfl⟩ (hl.1.trans hml.symm) (by rw [hb]; exact d_MO_vehicle_67) (Nat.le_of_ble_eq_true rfl) ⟨Nat.le_of_ble_eq_true rfl, Nat.le_of_ble_eq_true rfl⟩ hX hW0 hS (fun v67 σ67 H locs hM67 hX hS => ?_) (fun E x H1 locs1 hM => by cases hM)
          obtain ⟨ev67, es67⟩ := x_inl hM67
          subst es67
          subst ev67
          refine lv_if_eq (tgt := 75) hx hb d_MO_vehicle_70 (by decide) (fun c70 => ?_) (fun c70 => ?_)
          · exact absurd c70 (thr_n2 (by decide))
          · refine lv_iconst (v := 0) hx hb d_MO_vehicle_73 (by decide) ?_
            subst hR
            refine W.widen (k := 0) (n := 0) (by decide) (by decide) ?_; exact xs_i hx hb hr hlocks hX hS d_MO_vehicle_74
        · rw [if_pos c58] at hR
          refine lv_iconst (v := 1) hx hb d_MO_vehicle_61 (by decide) ?_
          refine lv_goto (tgt := 66) hx hb d_MO_vehicle_62 (by decide) ?_
          refine lv_iconst (v := 0) hx hb d_MO_vehicle_66 (by decide) ?_
          obtain ⟨cB67, hcB67, hoB67, hkB67⟩ := xw_recv (r := 15) (i := 0) hK hX (by decide) rfl rfl
          refine xc_s (rest := []) (x_invV (argsL := [.int (0 : Int32), .int (1 : Int32), .int (1 : Int32), .int (0 : Int32)]) hx hb hown (hts _ w_671) (hts _ w_673) (hts _ w_20) (x_code (hts _ w_674)) ⟨by decide, by decide⟩ hcB67 hoB67 hkB67 rfl rfl rfl d_MO_vehicle_67) (c_MO_throwing h0 σ (0 : Int32) (1 : Int32) (1 : Int32) (0 : Int32)) (xs_cw h0 hW0 m_674) (hts _ w_38) ⟨rfl, rfl, Nat.le_of_ble_eq_true rfl, Nat.le_of_ble_eq_true rfl⟩ (hl.1.trans hml.symm) (by rw [hb]; exact d_MO_vehicle_67) (Nat.le_of_ble_eq_true rfl) ⟨Nat.le_of_ble_eq_true rfl, Nat.le_of_ble_eq_true rfl⟩ hX hW0 hS (fun v67 σ67 H locs hM67 hX hS => ?_) (fun E x H1 locs1 hM => by cases hM)
          obtain ⟨ev67, es67⟩ := x_inl hM67
          subst es67
          subst ev67
          refine lv_if_eq (tgt := 75) hx hb d_MO_vehicle_70 (by decide) (fun c70 => ?_) (fun c70 => ?_)
          · exact absurd c70 (thr_n2 (by decide))
          · refine lv_iconst (v := 0) hx hb d_MO_vehicle_73 (by decide) ?_
            subst hR
            refine W.widen (k := 0) (n := 0) (by decide) (by decide) ?_; exact xs_i hx hb hr hlocks hX hS d_MO_vehicle_74
      · rw [if_pos c42] at hR
        refine lv_iconst (v := 1) hx hb d_MO_vehicle_45 (by decide) ?_
        refine lv_goto (tgt := 50) hx hb d_MO_vehicle_46 (by decide) ?_
        refine lv_iload hx hb d_MO_vehicle_50 (lv_at hl 0 rfl) ?_
        refine lv_aload_n hx hb d_MO_vehicle_52 rfl (lv_at hl 1 rfl) ?_
        refine xw_get (C := R_MO) (T := F_MO) (N := 20) (r := 15) (i := 0) hx hb hts hi_MO hown hK hX (by decide) rfl rfl 6 (by decide) (hts _ w_601) rfl rfl d_MO_vehicle_53 ?_
        refine lv_bipush (v := 16) hx hb d_MO_vehicle_56 (by decide) ?_
        refine lv_icmp_ne (tgt := 65) hx hb d_MO_vehicle_58 (by decide) (fun c58 => ?_) (fun c58 => ?_)
        · rw [if_neg c58] at hR
          have hvv := o_mv hok c58
          refine lv_iconst (v := 0) hx hb d_MO_vehicle_65 (by decide) ?_
          refine lv_iconst (v := 0) hx hb d_MO_vehicle_66 (by decide) ?_
          obtain ⟨cB67, hcB67, hoB67, hkB67⟩ := xw_recv (r := 15) (i := 0) hK hX (by decide) rfl rfl
          refine xc_s (rest := []) (x_invV (argsL := [.int (1 : Int32), .int (1 : Int32), .int (0 : Int32), .int (0 : Int32)]) hx hb hown (hts _ w_671) (hts _ w_673) (hts _ w_20) (x_code (hts _ w_674)) ⟨by decide, by decide⟩ hcB67 hoB67 hkB67 rfl rfl rfl d_MO_vehicle_67) (c_MO_throwing h0 σ (1 : Int32) (1 : Int32) (0 : Int32) (0 : Int32)) (xs_cw h0 hW0 m_674) (hts _ w_38) ⟨rfl, rfl, Nat.le_of_ble_eq_true rfl, Nat.le_of_ble_eq_true rfl⟩ (hl.1.trans hml.symm) (by rw [hb]; exact d_MO_vehicle_67) (Nat.le_of_ble_eq_true rfl) ⟨Nat.le_of_ble_eq_true rfl, Nat.le_of_ble_eq_true rfl⟩ hX hW0 hS (fun v67 σ67 H locs hM67 hX hS => ?_) (fun E x H1 locs1 hM => by cases hM)
          obtain ⟨ev67, es67⟩ := x_inl hM67
          subst es67
          subst ev67
          refine lv_if_eq (tgt := 75) hx hb d_MO_vehicle_70 (by decide) (fun c70 => ?_) (fun c70 => ?_)
          · exact absurd c70 (thr_n1 (by decide))
          · refine lv_iconst (v := 0) hx hb d_MO_vehicle_73 (by decide) ?_
            subst hR
            refine W.widen (k := 0) (n := 0) (by decide) (by decide) ?_; exact xs_i hx hb hr hlocks hX hS d_MO_vehicle_74
        · rw [if_pos c58] at hR
          refine lv_iconst (v := 1) hx hb d_MO_vehicle_61 (by decide) ?_
          refine lv_goto (tgt := 66) hx hb d_MO_vehicle_62 (by decide) ?_
          refine lv_iconst (v := 0) hx hb d_MO_vehicle_66 (by decide) ?_
          obtain ⟨cB67, hcB67, hoB67, hkB67⟩ := xw_recv (r := 15) (i := 0) hK hX (by decide) rfl rfl
          refine xc_s (rest := []) (x_invV (argsL := [.int (1 : Int32), .int (1 : Int32), .int (1 : Int32), .int (0 : Int32)]) hx hb hown (hts _ w_671) (hts _ w_673) (hts _ w_20) (x_code (hts _ w_674)) ⟨by decide, by decide⟩ hcB67 hoB67 hkB67 rfl rfl rfl d_MO_vehicle_67) (c_MO_throwing h0 σ (1 : Int32) (1 : Int32) (1 : Int32) (0 : Int32)) (xs_cw h0 hW0 m_674) (hts _ w_38) ⟨rfl, rfl, Nat.le_of_ble_eq_true rfl, Nat.le_of_ble_eq_true rfl⟩ (hl.1.trans hml.symm) (by rw [hb]; exact d_MO_vehicle_67) (Nat.le_of_ble_eq_true rfl) ⟨Nat.le_of_ble_eq_true rfl, Nat.le_of_ble_eq_true rfl⟩ hX hW0 hS (fun v67 σ67 H locs hM67 hX hS => ?_) (fun E x H1 locs1 hM => by cases hM)
          obtain ⟨ev67, es67⟩ := x_inl hM67
          subst es67
          subst ev67
          refine lv_if_eq (tgt := 75) hx hb d_MO_vehicle_70 (by decide) (fun c70 => ?_) (fun c70 => ?_)
          · exact absurd c70 (thr_n1 (by decide))
          · refine lv_iconst (v := 0) hx hb d_MO_vehicle_73 (by decide) ?_
            subst hR
            refine W.widen (k := 0) (n := 0) (by decide) (by decide) ?_; exact xs_i hx hb hr hlocks hX hS d_MO_vehicle_74
    · rw [if_neg c17] at hR
      refine lv_iload hx hb d_MO_vehicle_20 (lv_at hl 4 rfl) ?_
      refine xc_f (rest := []) (x_invS (argsL := [.int re]) hx hb hown (hts _ w_667) (hts _ w_668) (hts _ w_38) (x_code (hts _ w_669)) ⟨by decide, by decide⟩ rfl rfl rfl d_MO_vehicle_22) (c_MO_isLimit h0 σ re) (xs_cw h0 hW0 m_669) (hts _ w_38) ⟨rfl, rfl, Nat.le_of_ble_eq_true rfl, Nat.le_of_ble_eq_true rfl⟩ (hl.1.trans hml.symm) (by rw [hb]; exact d_MO_vehicle_22) (Nat.le_of_ble_eq_true rfl) ⟨Nat.le_of_ble_eq_true rfl, Nat.le_of_ble_eq_true rfl⟩ hX ⟨hW0, xo_S hS⟩ ?_
      refine lv_if_ne (tgt := 32) hx hb d_MO_vehicle_25 (by decide) (fun c25 => ?_) (fun c25 => ?_)
      · rw [if_neg c25] at hR
        refine lv_iconst (v := 0) hx hb d_MO_vehicle_32 (by decide) ?_
        refine lv_istore (lv' := [(5, .int (0 : Int32)), (0, .ref (xB s0 + XA 15 0)), (1, .int kd), (2, .int wb), (3, .int fr), (4, .int re)]) hx hb d_MO_vehicle_33 hl (by decide) rfl (fun ls hl => ?_)
        refine lv_aload_n hx hb d_MO_vehicle_35 rfl (lv_at hl 1 rfl) ?_
        refine lv_iload_n hx hb d_MO_vehicle_36 rfl (lv_at hl 2 rfl) ?_
        refine lv_iconst (v := 0) hx hb d_MO_vehicle_37 (by decide) ?_
        refine lv_iconst (v := 5) hx hb d_MO_vehicle_38 (by decide) ?_
        refine xc_f (rest := [.ref (xB s0 + XA 15 0)]) (x_invS (argsL := [.int kd, .int (0 : Int32), .int (5 : Int32)]) hx hb hown (hts _ w_664) (hts _ w_665) (hts _ w_38) (x_code (hts _ w_666)) ⟨by decide, by decide⟩ rfl rfl rfl d_MO_vehicle_39) (c_MO_in h0 σ kd (0 : Int32) (5 : Int32)) (xs_cw h0 hW0 m_666) (hts _ w_38) ⟨rfl, rfl, Nat.le_of_ble_eq_true rfl, Nat.le_of_ble_eq_true rfl⟩ (hl.1.trans hml.symm) (by rw [hb]; exact d_MO_vehicle_39) (Nat.le_of_ble_eq_true rfl) ⟨Nat.le_of_ble_eq_true rfl, Nat.le_of_ble_eq_true rfl⟩ hX ⟨hW0, xo_S hS⟩ ?_
        refine lv_if_ne (tgt := 49) hx hb d_MO_vehicle_42 (by decide) (fun c42 => ?_) (fun c42 => ?_)
        · rw [if_neg c42] at hR
          refine lv_iconst (v := 0) hx hb d_MO_vehicle_49 (by decide) ?_
          refine lv_iload hx hb d_MO_vehicle_50 (lv_at hl 0 rfl) ?_
          refine lv_aload_n hx hb d_MO_vehicle_52 rfl (lv_at hl 1 rfl) ?_
          refine xw_get (C := R_MO) (T := F_MO) (N := 20) (r := 15) (i := 0) hx hb hts hi_MO hown hK hX (by decide) rfl rfl 6 (by decide) (hts _ w_601) rfl rfl d_MO_vehicle_53 ?_
          refine lv_bipush (v := 16) hx hb d_MO_vehicle_56 (by decide) ?_
          refine lv_icmp_ne (tgt := 65) hx hb d_MO_vehicle_58 (by decide) (fun c58 => ?_) (fun c58 => ?_)
          · rw [if_neg c58] at hR
            have hvv := o_mv hok c58
            refine lv_iconst (v := 0) hx hb d_MO_vehicle_65 (by decide) ?_
            refine lv_iconst (v := 0) hx hb d_MO_vehicle_66 (by decide) ?_
            obtain ⟨cB67, hcB67, hoB67, hkB67⟩ := xw_recv (r := 15) (i := 0) hK hX (by decide) rfl rfl
            refine xc_s (rest := []) (x_invV (argsL := [.int (0 : Int32), .int (0 : Int32), .int (0 : Int32), .int (0 : Int32)]) hx hb hown (hts _ w_671) (hts _ w_673) (hts _ w_20) (x_code (hts _ w_674)) ⟨by decide, by decide⟩ hcB67 hoB67 hkB67 rfl rfl rfl d_MO_vehicle_67) (c_MO_throwing h0 σ (0 : Int32) (0 : Int32) (0 : Int32) (0 : Int32)) (xs_cw h0 hW0 m_674) (hts _ w_38) ⟨rfl, rfl, Nat.le_of_ble_eq_true rfl, Nat.le_of_ble_eq_true rfl⟩ (hl.1.trans hml.symm) (by rw [hb]; exact d_MO_vehicle_67) (Nat.le_of_ble_eq_true rfl) ⟨Nat.le_of_ble_eq_true rfl, Nat.le_of_ble_eq_true rfl⟩ hX hW0 hS (fun v67 σ67 H locs hM67 hX hS => ?_) (fun E x H1 locs1 hM => by cases hM)
            obtain ⟨ev67, es67⟩ := x_inl hM67
            subst es67
            subst ev67
            refine lv_if_eq (tgt := 75) hx hb d_MO_vehicle_70 (by decide) (fun c70 => ?_) (fun c70 => ?_)
            · refine lv_aload_n hx hb d_MO_vehicle_75 rfl (lv_at hl 1 rfl) ?_
              refine xw_get (C := R_MO) (T := F_MO) (N := 20) (r := 15) (i := 0) hx hb hts hi_MO hown hK hX (by decide) rfl rfl 7 (by decide) (hts _ w_602) rfl rfl d_MO_vehicle_76 ?_
              refine lv_aload_n hx hb d_MO_vehicle_79 rfl (lv_at hl 1 rfl) ?_
              refine xw_get (C := R_MO) (T := F_MO) (N := 20) (r := 15) (i := 0) hx hb hts hi_MO hown hK hX (by decide) rfl rfl 6 (by decide) (hts _ w_601) rfl rfl d_MO_vehicle_80 ?_
              refine lv_iload_n hx hb d_MO_vehicle_83 rfl (lv_at hl 2 rfl) ?_
              refine xw_iast (r := 19) (i := 0) (ent' := XE dA (xB s0) (xuI (S_MO_throwing σ (0 : Int32) (0 : Int32) (0 : Int32) (0 : Int32)).2 19 0 (((S_MO_throwing σ (0 : Int32) (0 : Int32) (0 : Int32) (0 : Int32)).2).1 15 0 6).toNatClampNeg kd)) hx hb hK xInj hX hS (xA_in _ _ _) (by decide) 0 rfl rfl (j := (((S_MO_throwing σ (0 : Int32) (0 : Int32) (0 : Int32) (0 : Int32)).2).1 15 0 6)) hvv ((xe_uI dA (xB s0) ((S_MO_throwing σ (0 : Int32) (0 : Int32) (0 : Int32) (0 : Int32)).2) 19 0 (((S_MO_throwing σ (0 : Int32) (0 : Int32) (0 : Int32) (0 : Int32)).2).1 15 0 6).toNatClampNeg kd).trans rfl) (xe_oI dA (xB s0) ((S_MO_throwing σ (0 : Int32) (0 : Int32) (0 : Int32) (0 : Int32)).2) 19 0 (((S_MO_throwing σ (0 : Int32) (0 : Int32) (0 : Int32) (0 : Int32)).2).1 15 0 6).toNatClampNeg kd) d_MO_vehicle_84 (fun H locs hX hS => ?_)
              refine lv_aload_n hx hb d_MO_vehicle_85 rfl (lv_at hl 1 rfl) ?_
              refine xw_get (C := R_MO) (T := F_MO) (N := 20) (r := 15) (i := 0) hx hb hts hi_MO hown hK hX (by decide) rfl rfl 8 (by decide) (hts _ w_603) rfl rfl d_MO_vehicle_86 ?_
              refine lv_aload_n hx hb d_MO_vehicle_89 rfl (lv_at hl 1 rfl) ?_
              refine xw_get (C := R_MO) (T := F_MO) (N := 20) (r := 15) (i := 0) hx hb hts hi_MO hown hK hX (by decide) rfl rfl 6 (by decide) (hts _ w_601) rfl rfl d_MO_vehicle_90 ?_
              refine lv_iload_n hx hb d_MO_vehicle_93 rfl (lv_at hl 3 rfl) ?_
              refine xw_iast (r := 20) (i := 0) (ent' := XE dA (xB s0) (xuI (xuI (S_MO_throwing σ (0 : Int32) (0 : Int32) (0 : Int32) (0 : Int32)).2 19 0 (((S_MO_throwing σ (0 : Int32) (0 : Int32) (0 : Int32) (0 : Int32)).2).1 15 0 6).toNatClampNeg kd) 20 0 ((xuI (S_MO_throwing σ (0 : Int32) (0 : Int32) (0 : Int32) (0 : Int32)).2 19 0 (((S_MO_throwing σ (0 : Int32) (0 : Int32) (0 : Int32) (0 : Int32)).2).1 15 0 6).toNatClampNeg kd).1 15 0 6).toNatClampNeg wb)) hx hb hK xInj hX hS (xA_in _ _ _) (by decide) 0 rfl rfl (j := ((xuI (S_MO_throwing σ (0 : Int32) (0 : Int32) (0 : Int32) (0 : Int32)).2 19 0 (((S_MO_throwing σ (0 : Int32) (0 : Int32) (0 : Int32) (0 : Int32)).2).1 15 0 6).toNatClampNeg kd).1 15 0 6)) hvv ((xe_uI dA (xB s0) (xuI (S_MO_throwing σ (0 : Int32) (0 : Int32) (0 : Int32) (0 : Int32)).2 19 0 (((S_MO_throwing σ (0 : Int32) (0 : Int32) (0 : Int32) (0 : Int32)).2).1 15 0 6).toNatClampNeg kd) 20 0 ((xuI (S_MO_throwing σ (0 : Int32) (0 : Int32) (0 : Int32) (0 : Int32)).2 19 0 (((S_MO_throwing σ (0 : Int32) (0 : Int32) (0 : Int32) (0 : Int32)).2).1 15 0 6).toNatClampNeg kd).1 15 0 6).toNatClampNeg wb).trans rfl) (xe_oI dA (xB s0) (xuI (S_MO_throwing σ (0 : Int32) (0 : Int32) (0 : Int32) (0 : Int32)).2 19 0 (((S_MO_throwing σ (0 : Int32) (0 : Int32) (0 : Int32) (0 : Int32)).2).1 15 0 6).toNatClampNeg kd) 20 0 ((xuI (S_MO_throwing σ (0 : Int32) (0 : Int32) (0 : Int32) (0 : Int32)).2 19 0 (((S_MO_throwing σ (0 : Int32) (0 : Int32) (0 : Int32) (0 : Int32)).2).1 15 0 6).toNatClampNeg kd).1 15 0 6).toNatClampNeg wb) d_MO_vehicle_94 (fun H locs hX hS => ?_)
              refine lv_aload_n hx hb d_MO_vehicle_95 rfl (lv_at hl 1 rfl) ?_
              refine xw_get (C := R_MO) (T := F_MO) (N := 20) (r := 15) (i := 0) hx hb hts hi_MO hown hK hX (by decide) rfl rfl 9 (by decide) (hts _ w_604) rfl rfl d_MO_vehicle_96 ?_
              refine lv_aload_n hx hb d_MO_vehicle_99 rfl (lv_at hl 1 rfl) ?_
              refine xw_get (C := R_MO) (T := F_MO) (N := 20) (r := 15) (i := 0) hx hb hts hi_MO hown hK hX (by decide) rfl rfl 6 (by decide) (hts _ w_601) rfl rfl d_MO_vehicle_100 ?_
              refine lv_iload_n hx hb d_MO_vehicle_103 rfl (lv_at hl 4 rfl) ?_
              refine xw_iast (r := 21) (i := 0) (ent' := XE dA (xB s0) (xuI (xuI (xuI (S_MO_throwing σ (0 : Int32) (0 : Int32) (0 : Int32) (0 : Int32)).2 19 0 (((S_MO_throwing σ (0 : Int32) (0 : Int32) (0 : Int32) (0 : Int32)).2).1 15 0 6).toNatClampNeg kd) 20 0 ((xuI (S_MO_throwing σ (0 : Int32) (0 : Int32) (0 : Int32) (0 : Int32)).2 19 0 (((S_MO_throwing σ (0 : Int32) (0 : Int32) (0 : Int32) (0 : Int32)).2).1 15 0 6).toNatClampNeg kd).1 15 0 6).toNatClampNeg wb) 21 0 ((xuI (xuI (S_MO_throwing σ (0 : Int32) (0 : Int32) (0 : Int32) (0 : Int32)).2 19 0 (((S_MO_throwing σ (0 : Int32) (0 : Int32) (0 : Int32) (0 : Int32)).2).1 15 0 6).toNatClampNeg kd) 20 0 ((xuI (S_MO_throwing σ (0 : Int32) (0 : Int32) (0 : Int32) (0 : Int32)).2 19 0 (((S_MO_throwing σ (0 : Int32) (0 : Int32) (0 : Int32) (0 : Int32)).2).1 15 0 6).toNatClampNeg kd).1 15 0 6).toNatClampNeg wb).1 15 0 6).toNatClampNeg fr)) hx hb hK xInj hX hS (xA_in _ _ _) (by decide) 0 rfl rfl (j := ((xuI (xuI (S_MO_throwing σ (0 : Int32) (0 : Int32) (0 : Int32) (0 : Int32)).2 19 0 (((S_MO_throwing σ (0 : Int32) (0 : Int32) (0 : Int32) (0 : Int32)).2).1 15 0 6).toNatClampNeg kd) 20 0 ((xuI (S_MO_throwing σ (0 : Int32) (0 : Int32) (0 : Int32) (0 : Int32)).2 19 0 (((S_MO_throwing σ (0 : Int32) (0 : Int32) (0 : Int32) (0 : Int32)).2).1 15 0 6).toNatClampNeg kd).1 15 0 6).toNatClampNeg wb).1 15 0 6)) hvv ((xe_uI dA (xB s0) (xuI (xuI (S_MO_throwing σ (0 : Int32) (0 : Int32) (0 : Int32) (0 : Int32)).2 19 0 (((S_MO_throwing σ (0 : Int32) (0 : Int32) (0 : Int32) (0 : Int32)).2).1 15 0 6).toNatClampNeg kd) 20 0 ((xuI (S_MO_throwing σ (0 : Int32) (0 : Int32) (0 : Int32) (0 : Int32)).2 19 0 (((S_MO_throwing σ (0 : Int32) (0 : Int32) (0 : Int32) (0 : Int32)).2).1 15 0 6).toNatClampNeg kd).1 15 0 6).toNatClampNeg wb) 21 0 ((xuI (xuI (S_MO_throwing σ (0 : Int32) (0 : Int32) (0 : Int32) (0 : Int32)).2 19 0 (((S_MO_throwing σ (0 : Int32) (0 : Int32) (0 : Int32) (0 : Int32)).2).1 15 0 6).toNatClampNeg kd) 20 0 ((xuI (S_MO_throwing σ (0 : Int32) (0 : Int32) (0 : Int32) (0 : Int32)).2 19 0 (((S_MO_throwing σ (0 : Int32) (0 : Int32) (0 : Int32) (0 : Int32)).2).1 15 0 6).toNatClampNeg kd).1 15 0 6).toNatClampNeg wb).1 15 0 6).toNatClampNeg fr).trans rfl) (xe_oI dA (xB s0) (xuI (xuI (S_MO_throwing σ (0 : Int32) (0 : Int32) (0 : Int32) (0 : Int32)).2 19 0 (((S_MO_throwing σ (0 : Int32) (0 : Int32) (0 : Int32) (0 : Int32)).2).1 15 0 6).toNatClampNeg kd) 20 0 ((xuI (S_MO_throwing σ (0 : Int32) (0 : Int32) (0 : Int32) (0 : Int32)).2 19 0 (((S_MO_throwing σ (0 : Int32) (0 : Int32) (0 : Int32) (0 : Int32)).2).1 15 0 6).toNatClampNeg kd).1 15 0 6).toNatClampNeg wb) 21 0 ((xuI (xuI (S_MO_throwing σ (0 : Int32) (0 : Int32) (0 : Int32) (0 : Int32)).2 19 0 (((S_MO_throwing σ (0 : Int32) (0 : Int32) (0 : Int32) (0 : Int32)).2).1 15 0 6).toNatClampNeg kd) 20 0 ((xuI (S_MO_throwing σ (0 : Int32) (0 : Int32) (0 : Int32) (0 : Int32)).2 19 0 (((S_MO_throwing σ (0 : Int32) (0 : Int32) (0 : Int32) (0 : Int32)).2).1 15 0 6).toNatClampNeg kd).1 15 0 6).toNatClampNeg wb).1 15 0 6).toNatClampNeg fr) d_MO_vehicle_104 (fun H locs hX hS => ?_)
              refine lv_aload_n hx hb d_MO_vehicle_105 rfl (lv_at hl 1 rfl) ?_
              refine xw_get (C := R_MO) (T := F_MO) (N := 20) (r := 15) (i := 0) hx hb hts hi_MO hown hK hX (by decide) rfl rfl 10 (by decide) (hts _ w_605) rfl rfl d_MO_vehicle_106 ?_
              refine lv_aload_n hx hb d_MO_vehicle_109 rfl (lv_at hl 1 rfl) ?_
              refine xw_get (C := R_MO) (T := F_MO) (N := 20) (r := 15) (i := 0) hx hb hts hi_MO hown hK hX (by decide) rfl rfl 6 (by decide) (hts _ w_601) rfl rfl d_MO_vehicle_110 ?_
              refine lv_iload hx hb d_MO_vehicle_113 (lv_at hl 5 rfl) ?_
              refine xw_iast (r := 22) (i := 0) (ent' := XE dA (xB s0) (xuI (xuI (xuI (xuI (S_MO_throwing σ (0 : Int32) (0 : Int32) (0 : Int32) (0 : Int32)).2 19 0 (((S_MO_throwing σ (0 : Int32) (0 : Int32) (0 : Int32) (0 : Int32)).2).1 15 0 6).toNatClampNeg kd) 20 0 ((xuI (S_MO_throwing σ (0 : Int32) (0 : Int32) (0 : Int32) (0 : Int32)).2 19 0 (((S_MO_throwing σ (0 : Int32) (0 : Int32) (0 : Int32) (0 : Int32)).2).1 15 0 6).toNatClampNeg kd).1 15 0 6).toNatClampNeg wb) 21 0 ((xuI (xuI (S_MO_throwing σ (0 : Int32) (0 : Int32) (0 : Int32) (0 : Int32)).2 19 0 (((S_MO_throwing σ (0 : Int32) (0 : Int32) (0 : Int32) (0 : Int32)).2).1 15 0 6).toNatClampNeg kd) 20 0 ((xuI (S_MO_throwing σ (0 : Int32) (0 : Int32) (0 : Int32) (0 : Int32)).2 19 0 (((S_MO_throwing σ (0 : Int32) (0 : Int32) (0 : Int32) (0 : Int32)).2).1 15 0 6).toNatClampNeg kd).1 15 0 6).toNatClampNeg wb).1 15 0 6).toNatClampNeg fr) 22 0 ((xuI (xuI (xuI (S_MO_throwing σ (0 : Int32) (0 : Int32) (0 : Int32) (0 : Int32)).2 19 0 (((S_MO_throwing σ (0 : Int32) (0 : Int32) (0 : Int32) (0 : Int32)).2).1 15 0 6).toNatClampNeg kd) 20 0 ((xuI (S_MO_throwing σ (0 : Int32) (0 : Int32) (0 : Int32) (0 : Int32)).2 19 0 (((S_MO_throwing σ (0 : Int32) (0 : Int32) (0 : Int32) (0 : Int32)).2).1 15 0 6).toNatClampNeg kd).1 15 0 6).toNatClampNeg wb) 21 0 ((xuI (xuI (S_MO_throwing σ (0 : Int32) (0 : Int32) (0 : Int32) (0 : Int32)).2 19 0 (((S_MO_throwing σ (0 : Int32) (0 : Int32) (0 : Int32) (0 : Int32)).2).1 15 0 6).toNatClampNeg kd) 20 0 ((xuI (S_MO_throwing σ (0 : Int32) (0 : Int32) (0 : Int32) (0 : Int32)).2 19 0 (((S_MO_throwing σ (0 : Int32) (0 : Int32) (0 : Int32) (0 : Int32)).2).1 15 0 6).toNatClampNeg kd).1 15 0 6).toNatClampNeg wb).1 15 0 6).toNatClampNeg fr).1 15 0 6).toNatClampNeg re)) hx hb hK xInj hX hS (xA_in _ _ _) (by decide) 0 rfl rfl (j := ((xuI (xuI (xuI (S_MO_throwing σ (0 : Int32) (0 : Int32) (0 : Int32) (0 : Int32)).2 19 0 (((S_MO_throwing σ (0 : Int32) (0 : Int32) (0 : Int32) (0 : Int32)).2).1 15 0 6).toNatClampNeg kd) 20 0 ((xuI (S_MO_throwing σ (0 : Int32) (0 : Int32) (0 : Int32) (0 : Int32)).2 19 0 (((S_MO_throwing σ (0 : Int32) (0 : Int32) (0 : Int32) (0 : Int32)).2).1 15 0 6).toNatClampNeg kd).1 15 0 6).toNatClampNeg wb) 21 0 ((xuI (xuI (S_MO_throwing σ (0 : Int32) (0 : Int32) (0 : Int32) (0 : Int32)).2 19 0 (((S_MO_throwing σ (0 : Int32) (0 : Int32) (0 : Int32) (0 : Int32)).2).1 15 0 6).toNatClampNeg kd) 20 0 ((xuI (S_MO_throwing σ (0 : Int32) (0 : Int32) (0 : Int32) (0 : Int32)).2 19 0 (((S_MO_throwing σ (0 : Int32) (0 : Int32) (0 : Int32) (0 : Int32)).2).1 15 0 6).toNatClampNeg kd).1 15 0 6).toNatClampNeg wb).1 15 0 6).toNatClampNeg fr).1 15 0 6)) hvv ((xe_uI dA (xB s0) (xuI (xuI (xuI (S_MO_throwing σ (0 : Int32) (0 : Int32) (0 : Int32) (0 : Int32)).2 19 0 (((S_MO_throwing σ (0 : Int32) (0 : Int32) (0 : Int32) (0 : Int32)).2).1 15 0 6).toNatClampNeg kd) 20 0 ((xuI (S_MO_throwing σ (0 : Int32) (0 : Int32) (0 : Int32) (0 : Int32)).2 19 0 (((S_MO_throwing σ (0 : Int32) (0 : Int32) (0 : Int32) (0 : Int32)).2).1 15 0 6).toNatClampNeg kd).1 15 0 6).toNatClampNeg wb) 21 0 ((xuI (xuI (S_MO_throwing σ (0 : Int32) (0 : Int32) (0 : Int32) (0 : Int32)).2 19 0 (((S_MO_throwing σ (0 : Int32) (0 : Int32) (0 : Int32) (0 : Int32)).2).1 15 0 6).toNatClampNeg kd) 20 0 ((xuI (S_MO_throwing σ (0 : Int32) (0 : Int32) (0 : Int32) (0 : Int32)).2 19 0 (((S_MO_throwing σ (0 : Int32) (0 : Int32) (0 : Int32) (0 : Int32)).2).1 15 0 6).toNatClampNeg kd).1 15 0 6).toNatClampNeg wb).1 15 0 6).toNatClampNeg fr) 22 0 ((xuI (xuI (xuI (S_MO_throwing σ (0 : Int32) (0 : Int32) (0 : Int32) (0 : Int32)).2 19 0 (((S_MO_throwing σ (0 : Int32) (0 : Int32) (0 : Int32) (0 : Int32)).2).1 15 0 6).toNatClampNeg kd) 20 0 ((xuI (S_MO_throwing σ (0 : Int32) (0 : Int32) (0 : Int32) (0 : Int32)).2 19 0 (((S_MO_throwing σ (0 : Int32) (0 : Int32) (0 : Int32) (0 : Int32)).2).1 15 0 6).toNatClampNeg kd).1 15 0 6).toNatClampNeg wb) 21 0 ((xuI (xuI (S_MO_throwing σ (0 : Int32) (0 : Int32) (0 : Int32) (0 : Int32)).2 19 0 (((S_MO_throwing σ (0 : Int32) (0 : Int32) (0 : Int32) (0 : Int32)).2).1 15 0 6).toNatClampNeg kd) 20 0 ((xuI (S_MO_throwing σ (0 : Int32) (0 : Int32) (0 : Int32) (0 : Int32)).2 19 0 (((S_MO_throwing σ (0 : Int32) (0 : Int32) (0 : Int32) (0 : Int32)).2).1 15 0 6).toNatClampNeg kd).1 15 0 6).toNatClampNeg wb).1 15 0 6).toNatClampNeg fr).1 15 0 6).toNatClampNeg re).trans rfl) (xe_oI dA (xB s0) (xuI (xuI (xuI (S_MO_throwing σ (0 : Int32) (0 : Int32) (0 : Int32) (0 : Int32)).2 19 0 (((S_MO_throwing σ (0 : Int32) (0 : Int32) (0 : Int32) (0 : Int32)).2).1 15 0 6).toNatClampNeg kd) 20 0 ((xuI (S_MO_throwing σ (0 : Int32) (0 : Int32) (0 : Int32) (0 : Int32)).2 19 0 (((S_MO_throwing σ (0 : Int32) (0 : Int32) (0 : Int32) (0 : Int32)).2).1 15 0 6).toNatClampNeg kd).1 15 0 6).toNatClampNeg wb) 21 0 ((xuI (xuI (S_MO_throwing σ (0 : Int32) (0 : Int32) (0 : Int32) (0 : Int32)).2 19 0 (((S_MO_throwing σ (0 : Int32) (0 : Int32) (0 : Int32) (0 : Int32)).2).1 15 0 6).toNatClampNeg kd) 20 0 ((xuI (S_MO_throwing σ (0 : Int32) (0 : Int32) (0 : Int32) (0 : Int32)).2 19 0 (((S_MO_throwing σ (0 : Int32) (0 : Int32) (0 : Int32) (0 : Int32)).2).1 15 0 6).toNatClampNeg kd).1 15 0 6).toNatClampNeg wb).1 15 0 6).toNatClampNeg fr) 22 0 ((xuI (xuI (xuI (S_MO_throwing σ (0 : Int32) (0 : Int32) (0 : Int32) (0 : Int32)).2 19 0 (((S_MO_throwing σ (0 : Int32) (0 : Int32) (0 : Int32) (0 : Int32)).2).1 15 0 6).toNatClampNeg kd) 20 0 ((xuI (S_MO_throwing σ (0 : Int32) (0 : Int32) (0 : Int32) (0 : Int32)).2 19 0 (((S_MO_throwing σ (0 : Int32) (0 : Int32) (0 : Int32) (0 : Int32)).2).1 15 0 6).toNatClampNeg kd).1 15 0 6).toNatClampNeg wb) 21 0 ((xuI (xuI (S_MO_throwing σ (0 : Int32) (0 : Int32) (0 : Int32) (0 : Int32)).2 19 0 (((S_MO_throwing σ (0 : Int32) (0 : Int32) (0 : Int32) (0 : Int32)).2).1 15 0 6).toNatClampNeg kd) 20 0 ((xuI (S_MO_throwing σ (0 : Int32) (0 : Int32) (0 : Int32) (0 : Int32)).2 19 0 (((S_MO_throwing σ (0 : Int32) (0 : Int32) (0 : Int32) (0 : Int32)).2).1 15 0 6).toNatClampNeg kd).1 15 0 6).toNatClampNeg wb).1 15 0 6).toNatClampNeg fr).1 15 0 6).toNatClampNeg re) d_MO_vehicle_115 (fun H locs hX hS => ?_)
              refine lv_aload_n hx hb d_MO_vehicle_116 rfl (lv_at hl 1 rfl) ?_
              refine xw_get (C := R_MO) (T := F_MO) (N := 20) (r := 15) (i := 0) hx hb hts hi_MO hown hK hX (by decide) rfl rfl 11 (by decide) (hts _ w_606) rfl rfl d_MO_vehicle_117 ?_
              refine lv_aload_n hx hb d_MO_vehicle_120 rfl (lv_at hl 1 rfl) ?_
              refine xw_get (C := R_MO) (T := F_MO) (N := 20) (r := 15) (i := 0) hx hb hts hi_MO hown hK hX (by decide) rfl rfl 6 (by decide) (hts _ w_601) rfl rfl d_MO_vehicle_121 ?_
              refine lv_iconst (v := -1) hx hb d_MO_vehicle_124 (by decide) ?_
              refine xw_iast (r := 23) (i := 0) (ent' := XE dA (xB s0) (xuI (xuI (xuI (xuI (xuI (S_MO_throwing σ (0 : Int32) (0 : Int32) (0 : Int32) (0 : Int32)).2 19 0 (((S_MO_throwing σ (0 : Int32) (0 : Int32) (0 : Int32) (0 : Int32)).2).1 15 0 6).toNatClampNeg kd) 20 0 ((xuI (S_MO_throwing σ (0 : Int32) (0 : Int32) (0 : Int32) (0 : Int32)).2 19 0 (((S_MO_throwing σ (0 : Int32) (0 : Int32) (0 : Int32) (0 : Int32)).2).1 15 0 6).toNatClampNeg kd).1 15 0 6).toNatClampNeg wb) 21 0 ((xuI (xuI (S_MO_throwing σ (0 : Int32) (0 : Int32) (0 : Int32) (0 : Int32)).2 19 0 (((S_MO_throwing σ (0 : Int32) (0 : Int32) (0 : Int32) (0 : Int32)).2).1 15 0 6).toNatClampNeg kd) 20 0 ((xuI (S_MO_throwing σ (0 : Int32) (0 : Int32) (0 : Int32) (0 : Int32)).2 19 0 (((S_MO_throwing σ (0 : Int32) (0 : Int32) (0 : Int32) (0 : Int32)).2).1 15 0 6).toNatClampNeg kd).1 15 0 6).toNatClampNeg wb).1 15 0 6).toNatClampNeg fr) 22 0 ((xuI (xuI (xuI (S_MO_throwing σ (0 : Int32) (0 : Int32) (0 : Int32) (0 : Int32)).2 19 0 (((S_MO_throwing σ (0 : Int32) (0 : Int32) (0 : Int32) (0 : Int32)).2).1 15 0 6).toNatClampNeg kd) 20 0 ((xuI (S_MO_throwing σ (0 : Int32) (0 : Int32) (0 : Int32) (0 : Int32)).2 19 0 (((S_MO_throwing σ (0 : Int32) (0 : Int32) (0 : Int32) (0 : Int32)).2).1 15 0 6).toNatClampNeg kd).1 15 0 6).toNatClampNeg wb) 21 0 ((xuI (xuI (S_MO_throwing σ (0 : Int32) (0 : Int32) (0 : Int32) (0 : Int32)).2 19 0 (((S_MO_throwing σ (0 : Int32) (0 : Int32) (0 : Int32) (0 : Int32)).2).1 15 0 6).toNatClampNeg kd) 20 0 ((xuI (S_MO_throwing σ (0 : Int32) (0 : Int32) (0 : Int32) (0 : Int32)).2 19 0 (((S_MO_throwing σ (0 : Int32) (0 : Int32) (0 : Int32) (0 : Int32)).2).1 15 0 6).toNatClampNeg kd).1 15 0 6).toNatClampNeg wb).1 15 0 6).toNatClampNeg fr).1 15 0 6).toNatClampNeg re) 23 0 ((xuI (xuI (xuI (xuI (S_MO_throwing σ (0 : Int32) (0 : Int32) (0 : Int32) (0 : Int32)).2 19 0 (((S_MO_throwing σ (0 : Int32) (0 : Int32) (0 : Int32) (0 : Int32)).2).1 15 0 6).toNatClampNeg kd) 20 0 ((xuI (S_MO_throwing σ (0 : Int32) (0 : Int32) (0 : Int32) (0 : Int32)).2 19 0 (((S_MO_throwing σ (0 : Int32) (0 : Int32) (0 : Int32) (0 : Int32)).2).1 15 0 6).toNatClampNeg kd).1 15 0 6).toNatClampNeg wb) 21 0 ((xuI (xuI (S_MO_throwing σ (0 : Int32) (0 : Int32) (0 : Int32) (0 : Int32)).2 19 0 (((S_MO_throwing σ (0 : Int32) (0 : Int32) (0 : Int32) (0 : Int32)).2).1 15 0 6).toNatClampNeg kd) 20 0 ((xuI (S_MO_throwing σ (0 : Int32) (0 : Int32) (0 : Int32) (0 : Int32)).2 19 0 (((S_MO_throwing σ (0 : Int32) (0 : Int32) (0 : Int32) (0 : Int32)).2).1 15 0 6).toNatClampNeg kd).1 15 0 6).toNatClampNeg wb).1 15 0 6).toNatClampNeg fr) 22 0 ((xuI (xuI (xuI (S_MO_throwing σ (0 : Int32) (0 : Int32) (0 : Int32) (0 : Int32)).2 19 0 (((S_MO_throwing σ (0 : Int32) (0 : Int32) (0 : Int32) (0 : Int32)).2).1 15 0 6).toNatClampNeg kd) 20 0 ((xuI (S_MO_throwing σ (0 : Int32) (0 : Int32) (0 : Int32) (0 : Int32)).2 19 0 (((S_MO_throwing σ (0 : Int32) (0 : Int32) (0 : Int32) (0 : Int32)).2).1 15 0 6).toNatClampNeg kd).1 15 0 6).toNatClampNeg wb) 21 0 ((xuI (xuI (S_MO_throwing σ (0 : Int32) (0 : Int32) (0 : Int32) (0 : Int32)).2 19 0 (((S_MO_throwing σ (0 : Int32) (0 : Int32) (0 : Int32) (0 : Int32)).2).1 15 0 6).toNatClampNeg kd) 20 0 ((xuI (S_MO_throwing σ (0 : Int32) (0 : Int32) (0 : Int32) (0 : Int32)).2 19 0 (((S_MO_throwing σ (0 : Int32) (0 : Int32) (0 : Int32) (0 : Int32)).2).1 15 0 6).toNatClampNeg kd).1 15 0 6).toNatClampNeg wb).1 15 0 6).toNatClampNeg fr).1 15 0 6).toNatClampNeg re).1 15 0 6).toNatClampNeg (-1 : Int32))) hx hb hK xInj hX hS (xA_in _ _ _) (by decide) 0 rfl rfl (j := ((xuI (xuI (xuI (xuI (S_MO_throwing σ (0 : Int32) (0 : Int32) (0 : Int32) (0 : Int32)).2 19 0 (((S_MO_throwing σ (0 : Int32) (0 : Int32) (0 : Int32) (0 : Int32)).2).1 15 0 6).toNatClampNeg kd) 20 0 ((xuI (S_MO_throwing σ (0 : Int32) (0 : Int32) (0 : Int32) (0 : Int32)).2 19 0 (((S_MO_throwing σ (0 : Int32) (0 : Int32) (0 : Int32) (0 : Int32)).2).1 15 0 6).toNatClampNeg kd).1 15 0 6).toNatClampNeg wb) 21 0 ((xuI (xuI (S_MO_throwing σ (0 : Int32) (0 : Int32) (0 : Int32) (0 : Int32)).2 19 0 (((S_MO_throwing σ (0 : Int32) (0 : Int32) (0 : Int32) (0 : Int32)).2).1 15 0 6).toNatClampNeg kd) 20 0 ((xuI (S_MO_throwing σ (0 : Int32) (0 : Int32) (0 : Int32) (0 : Int32)).2 19 0 (((S_MO_throwing σ (0 : Int32) (0 : Int32) (0 : Int32) (0 : Int32)).2).1 15 0 6).toNatClampNeg kd).1 15 0 6).toNatClampNeg wb).1 15 0 6).toNatClampNeg fr) 22 0 ((xuI (xuI (xuI (S_MO_throwing σ (0 : Int32) (0 : Int32) (0 : Int32) (0 : Int32)).2 19 0 (((S_MO_throwing σ (0 : Int32) (0 : Int32) (0 : Int32) (0 : Int32)).2).1 15 0 6).toNatClampNeg kd) 20 0 ((xuI (S_MO_throwing σ (0 : Int32) (0 : Int32) (0 : Int32) (0 : Int32)).2 19 0 (((S_MO_throwing σ (0 : Int32) (0 : Int32) (0 : Int32) (0 : Int32)).2).1 15 0 6).toNatClampNeg kd).1 15 0 6).toNatClampNeg wb) 21 0 ((xuI (xuI (S_MO_throwing σ (0 : Int32) (0 : Int32) (0 : Int32) (0 : Int32)).2 19 0 (((S_MO_throwing σ (0 : Int32) (0 : Int32) (0 : Int32) (0 : Int32)).2).1 15 0 6).toNatClampNeg kd) 20 0 ((xuI (S_MO_throwing σ (0 : Int32) (0 : Int32) (0 : Int32) (0 : Int32)).2 19 0 (((S_MO_throwing σ (0 : Int32) (0 : Int32) (0 : Int32) (0 : Int32)).2).1 15 0 6).toNatClampNeg kd).1 15 0 6).toNatClampNeg wb).1 15 0 6).toNatClampNeg fr).1 15 0 6).toNatClampNeg re).1 15 0 6)) hvv ((xe_uI dA (xB s0) (xuI (xuI (xuI (xuI (S_MO_throwing σ (0 : Int32) (0 : Int32) (0 : Int32) (0 : Int32)).2 19 0 (((S_MO_throwing σ (0 : Int32) (0 : Int32) (0 : Int32) (0 : Int32)).2).1 15 0 6).toNatClampNeg kd) 20 0 ((xuI (S_MO_throwing σ (0 : Int32) (0 : Int32) (0 : Int32) (0 : Int32)).2 19 0 (((S_MO_throwing σ (0 : Int32) (0 : Int32) (0 : Int32) (0 : Int32)).2).1 15 0 6).toNatClampNeg kd).1 15 0 6).toNatClampNeg wb) 21 0 ((xuI (xuI (S_MO_throwing σ (0 : Int32) (0 : Int32) (0 : Int32) (0 : Int32)).2 19 0 (((S_MO_throwing σ (0 : Int32) (0 : Int32) (0 : Int32) (0 : Int32)).2).1 15 0 6).toNatClampNeg kd) 20 0 ((xuI (S_MO_throwing σ (0 : Int32) (0 : Int32) (0 : Int32) (0 : Int32)).2 19 0 (((S_MO_throwing σ (0 : Int32) (0 : Int32) (0 : Int32) (0 : Int32)).2).1 15 0 6).toNatClampNeg kd).1 15 0 6).toNatClampNeg wb).1 15 0 6).toNatClampNeg fr) 22 0 ((xuI (xuI (xuI (S_MO_throwing σ (0 : Int32) (0 : Int32) (0 : Int32) (0 : Int32)).2 19 0 (((S_MO_throwing σ (0 : Int32) (0 : Int32) (0 : Int32) (0 : Int32)).2).1 15 0 6).toNatClampNeg kd) 20 0 ((xuI (S_MO_throwing σ (0 : Int32) (0 : Int32) (0 : Int32) (0 : Int32)).2 19 0 (((S_MO_throwing σ (0 : Int32) (0 : Int32) (0 : Int32) (0 : Int32)).2).1 15 0 6).toNatClampNeg kd).1 15 0 6).toNatClampNeg wb) 21 0 ((xuI (xuI (S_MO_throwing σ (0 : Int32) (0 : Int32) (0 : Int32) (0 : Int32)).2 19 0 (((S_MO_throwing σ (0 : Int32) (0 : Int32) (0 : Int32) (0 : Int32)).2).1 15 0 6).toNatClampNeg kd) 20 0 ((xuI (S_MO_throwing σ (0 : Int32) (0 : Int32) (0 : Int32) (0 : Int32)).2 19 0 (((S_MO_throwing σ (0 : Int32) (0 : Int32) (0 : Int32) (0 : Int32)).2).1 15 0 6).toNatClampNeg kd).1 15 0 6).toNatClampNeg wb).1 15 0 6).toNatClampNeg fr).1 15 0 6).toNatClampNeg re) 23 0 ((xuI (xuI (xuI (xuI (S_MO_throwing σ (0 : Int32) (0 : Int32) (0 : Int32) (0 : Int32)).2 19 0 (((S_MO_throwing σ (0 : Int32) (0 : Int32) (0 : Int32) (0 : Int32)).2).1 15 0 6).toNatClampNeg kd) 20 0 ((xuI (S_MO_throwing σ (0 : Int32) (0 : Int32) (0 : Int32) (0 : Int32)).2 19 0 (((S_MO_throwing σ (0 : Int32) (0 : Int32) (0 : Int32) (0 : Int32)).2).1 15 0 6).toNatClampNeg kd).1 15 0 6).toNatClampNeg wb) 21 0 ((xuI (xuI (S_MO_throwing σ (0 : Int32) (0 : Int32) (0 : Int32) (0 : Int32)).2 19 0 (((S_MO_throwing σ (0 : Int32) (0 : Int32) (0 : Int32) (0 : Int32)).2).1 15 0 6).toNatClampNeg kd) 20 0 ((xuI (S_MO_throwing σ (0 : Int32) (0 : Int32) (0 : Int32) (0 : Int32)).2 19 0 (((S_MO_throwing σ (0 : Int32) (0 : Int32) (0 : Int32) (0 : Int32)).2).1 15 0 6).toNatClampNeg kd).1 15 0 6).toNatClampNeg wb).1 15 0 6).toNatClampNeg fr) 22 0 ((xuI (xuI (xuI (S_MO_throwing σ (0 : Int32) (0 : Int32) (0 : Int32) (0 : Int32)).2 19 0 (((S_MO_throwing σ (0 : Int32) (0 : Int32) (0 : Int32) (0 : Int32)).2).1 15 0 6).toNatClampNeg kd) 20 0 ((xuI (S_MO_throwing σ (0 : Int32) (0 : Int32) (0 : Int32) (0 : Int32)).2 19 0 (((S_MO_throwing σ (0 : Int32) (0 : Int32) (0 : Int32) (0 : Int32)).2).1 15 0 6).toNatClampNeg kd).1 15 0 6).toNatClampNeg wb) 21 0 ((xuI (xuI (S_MO_throwing σ (0 : Int32) (0 : Int32) (0 : Int32) (0 : Int32)).2 19 0 (((S_MO_throwing σ (0 : Int32) (0 : Int32) (0 : Int32) (0 : Int32)).2).1 15 0 6).toNatClampNeg kd) 20 0 ((xuI (S_MO_throwing σ (0 : Int32) (0 : Int32) (0 : Int32) (0 : Int32)).2 19 0 (((S_MO_throwing σ (0 : Int32) (0 : Int32) (0 : Int32) (0 : Int32)).2).1 15 0 6).toNatClampNeg kd).1 15 0 6).toNatClampNeg wb).1 15 0 6).toNatClampNeg fr).1 15 0 6).toNatClampNeg re).1 15 0 6).toNatClampNeg (-1 : Int32)).trans rfl) (xe_oI dA (xB s0) (xuI (xuI (xuI (xuI (S_MO_throwing σ (0 : Int32) (0 : Int32) (0 : Int32) (0 : Int32)).2 19 0 (((S_MO_throwing σ (0 : Int32) (0 : Int32) (0 : Int32) (0 : Int32)).2).1 15 0 6).toNatClampNeg kd) 20 0 ((xuI (S_MO_throwing σ (0 : Int32) (0 : Int32) (0 : Int32) (0 : Int32)).2 19 0 (((S_MO_throwing σ (0 : Int32) (0 : Int32) (0 : Int32) (0 : Int32)).2).1 15 0 6).toNatClampNeg kd).1 15 0 6).toNatClampNeg wb) 21 0 ((xuI (xuI (S_MO_throwing σ (0 : Int32) (0 : Int32) (0 : Int32) (0 : Int32)).2 19 0 (((S_MO_throwing σ (0 : Int32) (0 : Int32) (0 : Int32) (0 : Int32)).2).1 15 0 6).toNatClampNeg kd) 20 0 ((xuI (S_MO_throwing σ (0 : Int32) (0 : Int32) (0 : Int32) (0 : Int32)).2 19 0 (((S_MO_throwing σ (0 : Int32) (0 : Int32) (0 : Int32) (0 : Int32)).2).1 15 0 6).toNatClampNeg kd).1 15 0 6).toNatClampNeg wb).1 15 0 6).toNatClampNeg fr) 22 0 ((xuI (xuI (xuI (S_MO_throwing σ (0 : Int32) (0 : Int32) (0 : Int32) (0 : Int32)).2 19 0 (((S_MO_throwing σ (0 : Int32) (0 : Int32) (0 : Int32) (0 : Int32)).2).1 15 0 6).toNatClampNeg kd) 20 0 ((xuI (S_MO_throwing σ (0 : Int32) (0 : Int32) (0 : Int32) (0 : Int32)).2 19 0 (((S_MO_throwing σ (0 : Int32) (0 : Int32) (0 : Int32) (0 : Int32)).2).1 15 0 6).toNatClampNeg kd).1 15 0 6).toNatClampNeg wb) 21 0 ((xuI (xuI (S_MO_throwing σ (0 : Int32) (0 : Int32) (0 : Int32) (0 : Int32)).2 19 0 (((S_MO_throwing σ (0 : Int32) (0 : Int32) (0 : Int32) (0 : Int32)).2).1 15 0 6).toNatClampNeg kd) 20 0 ((xuI (S_MO_throwing σ (0 : Int32) (0 : Int32) (0 : Int32) (0 : Int32)).2 19 0 (((S_MO_throwing σ (0 : Int32) (0 : Int32) (0 : Int32) (0 : Int32)).2).1 15 0 6).toNatClampNeg kd).1 15 0 6).toNatClampNeg wb).1 15 0 6).toNatClampNeg fr).1 15 0 6).toNatClampNeg re) 23 0 ((xuI (xuI (xuI (xuI (S_MO_throwing σ (0 : Int32) (0 : Int32) (0 : Int32) (0 : Int32)).2 19 0 (((S_MO_throwing σ (0 : Int32) (0 : Int32) (0 : Int32) (0 : Int32)).2).1 15 0 6).toNatClampNeg kd) 20 0 ((xuI (S_MO_throwing σ (0 : Int32) (0 : Int32) (0 : Int32) (0 : Int32)).2 19 0 (((S_MO_throwing σ (0 : Int32) (0 : Int32) (0 : Int32) (0 : Int32)).2).1 15 0 6).toNatClampNeg kd).1 15 0 6).toNatClampNeg wb) 21 0 ((xuI (xuI (S_MO_throwing σ (0 : Int32) (0 : Int32) (0 : Int32) (0 : Int32)).2 19 0 (((S_MO_throwing σ (0 : Int32) (0 : Int32) (0 : Int32) (0 : Int32)).2).1 15 0 6).toNatClampNeg kd) 20 0 ((xuI (S_MO_throwing σ (0 : Int32) (0 : Int32) (0 : Int32) (0 : Int32)).2 19 0 (((S_MO_throwing σ (0 : Int32) (0 : Int32) (0 : Int32) (0 : Int32)).2).1 15 0 6).toNatClampNeg kd).1 15 0 6).toNatClampNeg wb).1 15 0 6).toNatClampNeg fr) 22 0 ((xuI (xuI (xuI (S_MO_throwing σ (0 : Int32) (0 : Int32) (0 : Int32) (0 : Int32)).2 19 0 (((S_MO_throwing σ (0 : Int32) (0 : Int32) (0 : Int32) (0 : Int32)).2).1 15 0 6).toNatClampNeg kd) 20 0 ((xuI (S_MO_throwing σ (0 : Int32) (0 : Int32) (0 : Int32) (0 : Int32)).2 19 0 (((S_MO_throwing σ (0 : Int32) (0 : Int32) (0 : Int32) (0 : Int32)).2).1 15 0 6).toNatClampNeg kd).1 15 0 6).toNatClampNeg wb) 21 0 ((xuI (xuI (S_MO_throwing σ (0 : Int32) (0 : Int32) (0 : Int32) (0 : Int32)).2 19 0 (((S_MO_throwing σ (0 : Int32) (0 : Int32) (0 : Int32) (0 : Int32)).2).1 15 0 6).toNatClampNeg kd) 20 0 ((xuI (S_MO_throwing σ (0 : Int32) (0 : Int32) (0 : Int32) (0 : Int32)).2 19 0 (((S_MO_throwing σ (0 : Int32) (0 : Int32) (0 : Int32) (0 : Int32)).2).1 15 0 6).toNatClampNeg kd).1 15 0 6).toNatClampNeg wb).1 15 0 6).toNatClampNeg fr).1 15 0 6).toNatClampNeg re).1 15 0 6).toNatClampNeg (-1 : Int32)) d_MO_vehicle_125 (fun H locs hX hS => ?_)
              refine lv_iconst (v := 0) hx hb d_MO_vehicle_126 (by decide) ?_
              refine lv_istore (lv' := [(6, .int (0 : Int32)), (5, .int (0 : Int32)), (0, .ref (xB s0 + XA 15 0)), (1, .int kd), (2, .int wb), (3, .int fr), (4, .int re)]) hx hb d_MO_vehicle_127 hl (by decide) rfl (fun ls hl => ?_)
              exact l_MO_vehicle h0 hx hb hr hml hown hlocks hnt hO 31 (xuI (xuI (xuI (xuI (xuI (S_MO_throwing σ (0 : Int32) (0 : Int32) (0 : Int32) (0 : Int32)).2 19 0 (((S_MO_throwing σ (0 : Int32) (0 : Int32) (0 : Int32) (0 : Int32)).2).1 15 0 6).toNatClampNeg kd) 20 0 ((xuI (S_MO_throwing σ (0 : Int32) (0 : Int32) (0 : Int32) (0 : Int32)).2 19 0 (((S_MO_throwing σ (0 : Int32) (0 : Int32) (0 : Int32) (0 : Int32)).2).1 15 0 6).toNatClampNeg kd).1 15 0 6).toNatClampNeg wb) 21 0 ((xuI (xuI (S_MO_throwing σ (0 : Int32) (0 : Int32) (0 : Int32) (0 : Int32)).2 19 0 (((S_MO_throwing σ (0 : Int32) (0 : Int32) (0 : Int32) (0 : Int32)).2).1 15 0 6).toNatClampNeg kd) 20 0 ((xuI (S_MO_throwing σ (0 : Int32) (0 : Int32) (0 : Int32) (0 : Int32)).2 19 0 (((S_MO_throwing σ (0 : Int32) (0 : Int32) (0 : Int32) (0 : Int32)).2).1 15 0 6).toNatClampNeg kd).1 15 0 6).toNatClampNeg wb).1 15 0 6).toNatClampNeg fr) 22 0 ((xuI (xuI (xuI (S_MO_throwing σ (0 : Int32) (0 : Int32) (0 : Int32) (0 : Int32)).2 19 0 (((S_MO_throwing σ (0 : Int32) (0 : Int32) (0 : Int32) (0 : Int32)).2).1 15 0 6).toNatClampNeg kd) 20 0 ((xuI (S_MO_throwing σ (0 : Int32) (0 : Int32) (0 : Int32) (0 : Int32)).2 19 0 (((S_MO_throwing σ (0 : Int32) (0 : Int32) (0 : Int32) (0 : Int32)).2).1 15 0 6).toNatClampNeg kd).1 15 0 6).toNatClampNeg wb) 21 0 ((xuI (xuI (S_MO_throwing σ (0 : Int32) (0 : Int32) (0 : Int32) (0 : Int32)).2 19 0 (((S_MO_throwing σ (0 : Int32) (0 : Int32) (0 : Int32) (0 : Int32)).2).1 15 0 6).toNatClampNeg kd) 20 0 ((xuI (S_MO_throwing σ (0 : Int32) (0 : Int32) (0 : Int32) (0 : Int32)).2 19 0 (((S_MO_throwing σ (0 : Int32) (0 : Int32) (0 : Int32) (0 : Int32)).2).1 15 0 6).toNatClampNeg kd).1 15 0 6).toNatClampNeg wb).1 15 0 6).toNatClampNeg fr).1 15 0 6).toNatClampNeg re) 23 0 ((xuI (xuI (xuI (xuI (S_MO_throwing σ (0 : Int32) (0 : Int32) (0 : Int32) (0 : Int32)).2 19 0 (((S_MO_throwing σ (0 : Int32) (0 : Int32) (0 : Int32) (0 : Int32)).2).1 15 0 6).toNatClampNeg kd) 20 0 ((xuI (S_MO_throwing σ (0 : Int32) (0 : Int32) (0 : Int32) (0 : Int32)).2 19 0 (((S_MO_throwing σ (0 : Int32) (0 : Int32) (0 : Int32) (0 : Int32)).2).1 15 0 6).toNatClampNeg kd).1 15 0 6).toNatClampNeg wb) 21 0 ((xuI (xuI (S_MO_throwing σ (0 : Int32) (0 : Int32) (0 : Int32) (0 : Int32)).2 19 0 (((S_MO_throwing σ (0 : Int32) (0 : Int32) (0 : Int32) (0 : Int32)).2).1 15 0 6).toNatClampNeg kd) 20 0 ((xuI (S_MO_throwing σ (0 : Int32) (0 : Int32) (0 : Int32) (0 : Int32)).2 19 0 (((S_MO_throwing σ (0 : Int32) (0 : Int32) (0 : Int32) (0 : Int32)).2).1 15 0 6).toNatClampNeg kd).1 15 0 6).toNatClampNeg wb).1 15 0 6).toNatClampNeg fr) 22 0 ((xuI (xuI (xuI (S_MO_throwing σ (0 : Int32) (0 : Int32) (0 : Int32) (0 : Int32)).2 19 0 (((S_MO_throwing σ (0 : Int32) (0 : Int32) (0 : Int32) (0 : Int32)).2).1 15 0 6).toNatClampNeg kd) 20 0 ((xuI (S_MO_throwing σ (0 : Int32) (0 : Int32) (0 : Int32) (0 : Int32)).2 19 0 (((S_MO_throwing σ (0 : Int32) (0 : Int32) (0 : Int32) (0 : Int32)).2).1 15 0 6).toNatClampNeg kd).1 15 0 6).toNatClampNeg wb) 21 0 ((xuI (xuI (S_MO_throwing σ (0 : Int32) (0 : Int32) (0 : Int32) (0 : Int32)).2 19 0 (((S_MO_throwing σ (0 : Int32) (0 : Int32) (0 : Int32) (0 : Int32)).2).1 15 0 6).toNatClampNeg kd) 20 0 ((xuI (S_MO_throwing σ (0 : Int32) (0 : Int32) (0 : Int32) (0 : Int32)).2 19 0 (((S_MO_throwing σ (0 : Int32) (0 : Int32) (0 : Int32) (0 : Int32)).2).1 15 0 6).toNatClampNeg kd).1 15 0 6).toNatClampNeg wb).1 15 0 6).toNatClampNeg fr).1 15 0 6).toNatClampNeg re).1 15 0 6).toNatClampNeg (-1 : Int32)) (0 : Int32) 0 nI_0.symm rfl (by decide)  hvv hX hS ls (lv_sub hl [2, 0] rfl) res hR
            · exact absurd thr_z c70
          · rw [if_pos c58] at hR
            refine lv_iconst (v := 1) hx hb d_MO_vehicle_61 (by decide) ?_
            refine lv_goto (tgt := 66) hx hb d_MO_vehicle_62 (by decide) ?_
            refine lv_iconst (v := 0) hx hb d_MO_vehicle_66 (by decide) ?_
            obtain ⟨cB67, hcB67, hoB67, hkB67⟩ := xw_recv (r := 15) (i := 0) hK hX (by decide) rfl rfl
            refine xc_s (rest := []) (x_invV (argsL := [.int (0 : Int32), .int (0 : Int32), .int (1 : Int32), .int (0 : Int32)]) hx hb hown (hts _ w_671) (hts _ w_673) (hts _ w_20) (x_code (hts _ w_674)) ⟨by decide, by decide⟩ hcB67 hoB67 hkB67 rfl rfl rfl d_MO_vehicle_67) (c_MO_throwing h0 σ (0 : Int32) (0 : Int32) (1 : Int32) (0 : Int32)) (xs_cw h0 hW0 m_674) (hts _ w_38) ⟨rfl, rfl, Nat.le_of_ble_eq_true rfl, Nat.le_of_ble_eq_true rfl⟩ (hl.1.trans hml.symm) (by rw [hb]; exact d_MO_vehicle_67) (Nat.le_of_ble_eq_true rfl) ⟨Nat.le_of_ble_eq_true rfl, Nat.le_of_ble_eq_true rfl⟩ hX hW0 hS (fun v67 σ67 H locs hM67 hX hS => ?_) (fun E x H1 locs1 hM => by cases hM)
            obtain ⟨ev67, es67⟩ := x_inl hM67
            subst es67
            subst ev67
            refine lv_if_eq (tgt := 75) hx hb d_MO_vehicle_70 (by decide) (fun c70 => ?_) (fun c70 => ?_)
            · exact absurd c70 (thr_n3 (by decide))
            · refine lv_iconst (v := 0) hx hb d_MO_vehicle_73 (by decide) ?_
              subst hR
              refine W.widen (k := 0) (n := 0) (by decide) (by decide) ?_; exact xs_i hx hb hr hlocks hX hS d_MO_vehicle_74
        · rw [if_pos c42] at hR
          refine lv_iconst (v := 1) hx hb d_MO_vehicle_45 (by decide) ?_
          refine lv_goto (tgt := 50) hx hb d_MO_vehicle_46 (by decide) ?_
          refine lv_iload hx hb d_MO_vehicle_50 (lv_at hl 0 rfl) ?_
          refine lv_aload_n hx hb d_MO_vehicle_52 rfl (lv_at hl 1 rfl) ?_
          refine xw_get (C := R_MO) (T := F_MO) (N := 20) (r := 15) (i := 0) hx hb hts hi_MO hown hK hX (by decide) rfl rfl 6 (by decide) (hts _ w_601) rfl rfl d_MO_vehicle_53 ?_
          refine lv_bipush (v := 16) hx hb d_MO_vehicle_56 (by decide) ?_
          refine lv_icmp_ne (tgt := 65) hx hb d_MO_vehicle_58 (by decide) (fun c58 => ?_) (fun c58 => ?_)
          · rw [if_neg c58] at hR
            have hvv := o_mv hok c58
            refine lv_iconst (v := 0) hx hb d_MO_vehicle_65 (by decide) ?_
            refine lv_iconst (v := 0) hx hb d_MO_vehicle_66 (by decide) ?_
            obtain ⟨cB67, hcB67, hoB67, hkB67⟩ := xw_recv (r := 15) (i := 0) hK hX (by decide) rfl rfl
            refine xc_s (rest := []) (x_invV (argsL := [.int (1 : Int32), .int (0 : Int32), .int (0 : Int32), .int (0 : Int32)]) hx hb hown (hts _ w_671) (hts _ w_673) (hts _ w_20) (x_code (hts _ w_674)) ⟨by decide, by decide⟩ hcB67 hoB67 hkB67 rfl rfl rfl d_MO_vehicle_67) (c_MO_throwing h0 σ (1 : Int32) (0 : Int32) (0 : Int32) (0 : Int32)) (xs_cw h0 hW0 m_674) (hts _ w_38) ⟨rfl, rfl, Nat.le_of_ble_eq_true rfl, Nat.le_of_ble_eq_true rfl⟩ (hl.1.trans hml.symm) (by rw [hb]; exact d_MO_vehicle_67) (Nat.le_of_ble_eq_true rfl) ⟨Nat.le_of_ble_eq_true rfl, Nat.le_of_ble_eq_true rfl⟩ hX hW0 hS (fun v67 σ67 H locs hM67 hX hS => ?_) (fun E x H1 locs1 hM => by cases hM)
            obtain ⟨ev67, es67⟩ := x_inl hM67
            subst es67
            subst ev67
            refine lv_if_eq (tgt := 75) hx hb d_MO_vehicle_70 (by decide) (fun c70 => ?_) (fun c70 => ?_)
            · exact absurd c70 (thr_n1 (by decide))
            · refine lv_iconst (v := 0) hx hb d_MO_vehicle_73 (by decide) ?_
              subst hR
              refine W.widen (k := 0) (n := 0) (by decide) (by decide) ?_; exact xs_i hx hb hr hlocks hX hS d_MO_vehicle_74
          · rw [if_pos c58] at hR
            refine lv_iconst (v := 1) hx hb d_MO_vehicle_61 (by decide) ?_
            refine lv_goto (tgt := 66) hx hb d_MO_vehicle_62 (by decide) ?_
            refine lv_iconst (v := 0) hx hb d_MO_vehicle_66 (by decide) ?_
            obtain ⟨cB67, hcB67, hoB67, hkB67⟩ := xw_recv (r := 15) (i := 0) hK hX (by decide) rfl rfl
            refine xc_s (rest := []) (x_invV (argsL := [.int (1 : Int32), .int (0 : Int32), .int (1 : Int32), .int (0 : Int32)]) hx hb hown (hts _ w_671) (hts _ w_673) (hts _ w_20) (x_code (hts _ w_674)) ⟨by decide, by decide⟩ hcB67 hoB67 hkB67 rfl rfl rfl d_MO_vehicle_67) (c_MO_throwing h0 σ (1 : Int32) (0 : Int32) (1 : Int32) (0 : Int32)) (xs_cw h0 hW0 m_674) (hts _ w_38) ⟨rfl, rfl, Nat.le_of_ble_eq_true rfl, Nat.le_of_ble_eq_true rfl⟩ (hl.1.trans hml.symm) (by rw [hb]; exact d_MO_vehicle_67) (Nat.le_of_ble_eq_true rfl) ⟨Nat.le_of_ble_eq_true rfl, Nat.le_of_ble_eq_true rfl⟩ hX hW0 hS (fun v67 σ67 H locs hM67 hX hS => ?_) (fun E x H1 locs1 hM => by cases hM)
            obtain ⟨ev67, es67⟩ := x_inl hM67
            subst es67
            subst ev67
            refine lv_if_eq (tgt := 75) hx hb d_MO_vehicle_70 (by decide) (fun c70 => ?_) (fun c70 => ?_)
            · exact absurd c70 (thr_n1 (by decide))
            · refine lv_iconst (v := 0) hx hb d_MO_vehicle_73 (by decide) ?_
              subst hR
              refine W.widen (k := 0) (n := 0) (by decide) (by decide) ?_; exact xs_i hx hb hr hlocks hX hS d_MO_vehicle_74
      · rw [if_pos c25] at hR
        refine lv_iconst (v := 1) hx hb d_MO_vehicle_28 (by decide) ?_
        refine lv_goto (tgt := 33) hx hb d_MO_vehicle_29 (by decide) ?_
        refine lv_istore (lv' := [(5, .int (1 : Int32)), (0, .ref (xB s0 + XA 15 0)), (1, .int kd), (2, .int wb), (3, .int fr), (4, .int re)]) hx hb d_MO_vehicle_33 hl (by decide) rfl (fun ls hl => ?_)
        refine lv_aload_n hx hb d_MO_vehicle_35 rfl (lv_at hl 1 rfl) ?_
        refine lv_iload_n hx hb d_MO_vehicle_36 rfl (lv_at hl 2 rfl) ?_
        refine lv_iconst (v := 0) hx hb d_MO_vehicle_37 (by decide) ?_
        refine lv_iconst (v := 5) hx hb d_MO_vehicle_38 (by decide) ?_
        refine xc_f (rest := [.ref (xB s0 + XA 15 0)]) (x_invS (argsL := [.int kd, .int (0 : Int32), .int (5 : Int32)]) hx hb hown (hts _ w_664) (hts _ w_665) (hts _ w_38) (x_code (hts _ w_666)) ⟨by decide, by decide⟩ rfl rfl rfl d_MO_vehicle_39) (c_MO_in h0 σ kd (0 : Int32) (5 : Int32)) (xs_cw h0 hW0 m_666) (hts _ w_38) ⟨rfl, rfl, Nat.le_of_ble_eq_true rfl, Nat.le_of_ble_eq_true rfl⟩ (hl.1.trans hml.symm) (by rw [hb]; exact d_MO_vehicle_39) (Nat.le_of_ble_eq_true rfl) ⟨Nat.le_of_ble_eq_true rfl, Nat.le_of_ble_eq_true rfl⟩ hX ⟨hW0, xo_S hS⟩ ?_
        refine lv_if_ne (tgt := 49) hx hb d_MO_vehicle_42 (by decide) (fun c42 => ?_) (fun c42 => ?_)
        · rw [if_neg c42] at hR
          refine lv_iconst (v := 0) hx hb d_MO_vehicle_49 (by decide) ?_
          refine lv_iload hx hb d_MO_vehicle_50 (lv_at hl 0 rfl) ?_
          refine lv_aload_n hx hb d_MO_vehicle_52 rfl (lv_at hl 1 rfl) ?_
          refine xw_get (C := R_MO) (T := F_MO) (N := 20) (r := 15) (i := 0) hx hb hts hi_MO hown hK hX (by decide) rfl rfl 6 (by decide) (hts _ w_601) rfl rfl d_MO_vehicle_53 ?_
          refine lv_bipush (v := 16) hx hb d_MO_vehicle_56 (by decide) ?_
          refine lv_icmp_ne (tgt := 65) hx hb d_MO_vehicle_58 (by decide) (fun c58 => ?_) (fun c58 => ?_)
          · rw [if_neg c58] at hR
            have hvv := o_mv hok c58
            refine lv_iconst (v := 0) hx hb d_MO_vehicle_65 (by decide) ?_
            refine lv_iconst (v := 0) hx hb d_MO_vehicle_66 (by decide) ?_
            obtain ⟨cB67, hcB67, hoB67, hkB67⟩ := xw_recv (r := 15) (i := 0) hK hX (by decide) rfl rfl
            refine xc_s (rest := []) (x_invV (argsL := [.int (0 : Int32), .int (1 : Int32), .int (0 : Int32), .int (0 : Int32)]) hx hb hown (hts _ w_671) (hts _ w_673) (hts _ w_20) (x_code (hts _ w_674)) ⟨by decide, by decide⟩ hcB67 hoB67 hkB67 rfl rfl rfl d_MO_vehicle_67) (c_MO_throwing h0 σ (0 : Int32) (1 : Int32) (0 : Int32) (0 : Int32)) (xs_cw h0 hW0 m_674) (hts _ w_38) ⟨rfl, rfl, Nat.le_of_ble_eq_true rfl, Nat.le_of_ble_eq_true rfl⟩ (hl.1.trans hml.symm) (by rw [hb]; exact d_MO_vehicle_67) (Nat.le_of_ble_eq_true rfl) ⟨Nat.le_of_ble_eq_true rfl, Nat.le_of_ble_eq_true rfl⟩ hX hW0 hS (fun v67 σ67 H locs hM67 hX hS => ?_) (fun E x H1 locs1 hM => by cases hM)
            obtain ⟨ev67, es67⟩ := x_inl hM67
            subst es67
            subst ev67
            refine lv_if_eq (tgt := 75) hx hb d_MO_vehicle_70 (by decide) (fun c70 => ?_) (fun c70 => ?_)
            · exact absurd c70 (thr_n2 (by decide))
            · refine lv_iconst (v := 0) hx hb d_MO_vehicle_73 (by decide) ?_
              subst hR
              refine W.widen (k := 0) (n := 0) (by decide) (by decide) ?_; exact xs_i hx hb hr hlocks hX hS d_MO_vehicle_74
          · rw [if_pos c58] at hR
            refine lv_iconst (v := 1) hx hb d_MO_vehicle_61 (by decide) ?_
            refine lv_goto (tgt := 66) hx hb d_MO_vehicle_62 (by decide) ?_
            refine lv_iconst (v := 0) hx hb d_MO_vehicle_66 (by decide) ?_
            obtain ⟨cB67, hcB67, hoB67, hkB67⟩ := xw_recv (r := 15) (i := 0) hK hX (by decide) rfl rfl
            refine xc_s (rest := []) (x_invV (argsL := [.int (0 : Int32), .int (1 : Int32), .int (1 : Int32), .int (0 : Int32)]) hx hb hown (hts _ w_671) (hts _ w_673) (hts _ w_20) (x_code (hts _ w_674)) ⟨by decide, by decide⟩ hcB67 hoB67 hkB67 rfl rfl rfl d_MO_vehicle_67) (c_MO_throwing h0 σ (0 : Int32) (1 : Int32) (1 : Int32) (0 : Int32)) (xs_cw h0 hW0 m_674) (hts _ w_38) ⟨rfl, rfl, Nat.le_of_ble_eq_true rfl, Nat.le_of_ble_eq_true rfl⟩ (hl.1.trans hml.symm) (by rw [hb]; exact d_MO_vehicle_67) (Nat.le_of_ble_eq_true rfl) ⟨Nat.le_of_ble_eq_true rfl, Nat.le_of_ble_eq_true rfl⟩ hX hW0 hS (fun v67 σ67 H locs hM67 hX hS => ?_) (fun E x H1 locs1 hM => by cases hM)
            obtain ⟨ev67, es67⟩ := x_inl hM67
            subst es67
            subst ev67
            refine lv_if_eq (tgt := 75) hx hb d_MO_vehicle_70 (by decide) (fun c70 => ?_) (fun c70 => ?_)
            · exact absurd c70 (thr_n2 (by decide))
            · refine lv_iconst (v := 0) hx hb d_MO_vehicle_73 (by decide) ?_
              subst hR
              refine W.widen (k := 0) (n := 0) (by decide) (by decide) ?_; exact xs_i hx hb hr hlocks hX hS d_MO_vehicle_74
        · rw [if_pos c42] at hR
          refine lv_iconst (v := 1) hx hb d_MO_vehicle_45 (by decide) ?_
          refine lv_goto (tgt := 50) hx hb d_MO_vehicle_46 (by decide) ?_
          refine lv_iload hx hb d_MO_vehicle_50 (lv_at hl 0 rfl) ?_
          refine lv_aload_n hx hb d_MO_vehicle_52 rfl (lv_at hl 1 rfl) ?_
          refine xw_get (C := R_MO) (T := F_MO) (N := 20) (r := 15) (i := 0) hx hb hts hi_MO hown hK hX (by decide) rfl rfl 6 (by decide) (hts _ w_601) rfl rfl d_MO_vehicle_53 ?_
          refine lv_bipush (v := 16) hx hb d_MO_vehicle_56 (by decide) ?_
          refine lv_icmp_ne (tgt := 65) hx hb d_MO_vehicle_58 (by decide) (fun c58 => ?_) (fun c58 => ?_)
          · rw [if_neg c58] at hR
            have hvv := o_mv hok c58
            refine lv_iconst (v := 0) hx hb d_MO_vehicle_65 (by decide) ?_
            refine lv_iconst (v := 0) hx hb d_MO_vehicle_66 (by decide) ?_
            obtain ⟨cB67, hcB67, hoB67, hkB67⟩ := xw_recv (r := 15) (i := 0) hK hX (by decide) rfl rfl
            refine xc_s (rest := []) (x_invV (argsL := [.int (1 : Int32), .int (1 : Int32), .int (0 : Int32), .int (0 : Int32)]) hx hb hown (hts _ w_671) (hts _ w_673) (hts _ w_20) (x_code (hts _ w_674)) ⟨by decide, by decide⟩ hcB67 hoB67 hkB67 rfl rfl rfl d_MO_vehicle_67) (c_MO_throwing h0 σ (1 : Int32) (1 : Int32) (0 : Int32) (0 : Int32)) (xs_cw h0 hW0 m_674) (hts _ w_38) ⟨rfl, rfl, Nat.le_of_ble_eq_true rfl, Nat.le_of_ble_eq_true rfl⟩ (hl.1.trans hml.symm) (by rw [hb]; exact d_MO_vehicle_67) (Nat.le_of_ble_eq_true rfl) ⟨Nat.le_of_ble_eq_true rfl, Nat.le_of_ble_eq_true rfl⟩ hX hW0 hS (fun v67 σ67 H locs hM67 hX hS => ?_) (fun E x H1 locs1 hM => by cases hM)
            obtain ⟨ev67, es67⟩ := x_inl hM67
            subst es67
            subst ev67
            refine lv_if_eq (tgt := 75) hx hb d_MO_vehicle_70 (by decide) (fun c70 => ?_) (fun c70 => ?_)
            · exact absurd c70 (thr_n1 (by decide))
            · refine lv_iconst (v := 0) hx hb d_MO_vehicle_73 (by decide) ?_
              subst hR
              refine W.widen (k := 0) (n := 0) (by decide) (by decide) ?_; exact xs_i hx hb hr hlocks hX hS d_MO_vehicle_74
          · rw [if_pos c58] at hR
            refine lv_iconst (v := 1) hx hb d_MO_vehicle_61 (by decide) ?_
            refine lv_goto (tgt := 66) hx hb d_MO_vehicle_62 (by decide) ?_
            refine lv_iconst (v := 0) hx hb d_MO_vehicle_66 (by decide) ?_
            obtain ⟨cB67, hcB67, hoB67, hkB67⟩ := xw_recv (r := 15) (i := 0) hK hX (by decide) rfl rfl
            refine xc_s (rest := []) (x_invV (argsL := [.int (1 : Int32), .int (1 : Int32), .int (1 : Int32), .int (0 : Int32)]) hx hb hown (hts _ w_671) (hts _ w_673) (hts _ w_20) (x_code (hts _ w_674)) ⟨by decide, by decide⟩ hcB67 hoB67 hkB67 rfl rfl rfl d_MO_vehicle_67) (c_MO_throwing h0 σ (1 : Int32) (1 : Int32) (1 : Int32) (0 : Int32)) (xs_cw h0 hW0 m_674) (hts _ w_38) ⟨rfl, rfl, Nat.le_of_ble_eq_true rfl, Nat.le_of_ble_eq_true rfl⟩ (hl.1.trans hml.symm) (by rw [hb]; exact d_MO_vehicle_67) (Nat.le_of_ble_eq_true rfl) ⟨Nat.le_of_ble_eq_true rfl, Nat.le_of_ble_eq_true rfl⟩ hX hW0 hS (fun v67 σ67 H locs hM67 hX hS => ?_) (fun E x H1 locs1 hM => by cases hM)
            obtain ⟨ev67, es67⟩ := x_inl hM67
            subst es67
            subst ev67
            refine lv_if_eq (tgt := 75) hx hb d_MO_vehicle_70 (by decide) (fun c70 => ?_) (fun c70 => ?_)
            · exact absurd c70 (thr_n1 (by decide))
            · refine lv_iconst (v := 0) hx hb d_MO_vehicle_73 (by decide) ?_
              subst hR
              refine W.widen (k := 0) (n := 0) (by decide) (by decide) ?_; exact xs_i hx hb hr hlocks hX hS d_MO_vehicle_74

abbrev rm_MO_limits : Room := { frames := 2, cells := 0, slots := 0, locals := 43 }
def S_MO_limits (σ : XS) (v : Int32) (fr : Int32) (re : Int32) : Unit × XS := (if (S_MO_isVehicle σ v) = 0 then (if (S_MO_isLimit σ fr) = 0 then ((), (S_MO_throwing σ (1 : Int32) (1 : Int32) (0 : Int32) (0 : Int32)).2) else (if (S_MO_isLimit σ re) = 0 then ((), (S_MO_throwing σ (1 : Int32) (1 : Int32) (0 : Int32) (0 : Int32)).2) else ((), (S_MO_throwing σ (1 : Int32) (0 : Int32) (0 : Int32) (0 : Int32)).2))) else (if (S_MO_isLimit σ fr) = 0 then ((), (S_MO_throwing σ (0 : Int32) (1 : Int32) (0 : Int32) (0 : Int32)).2) else (if (S_MO_isLimit σ re) = 0 then ((), (S_MO_throwing σ (0 : Int32) (1 : Int32) (0 : Int32) (0 : Int32)).2) else ((), (xuI (xuI (S_MO_throwing σ (0 : Int32) (0 : Int32) (0 : Int32) (0 : Int32)).2 21 0 v.toNatClampNeg fr) 22 0 v.toNatClampNeg re)))))
set_option maxHeartbeats 4000000 in
set_option maxRecDepth 100000 in
theorem c_MO_limits {l : Launch} {s0 : State} {A0 : Array Value} {D : va_G} {dA : Nat → ClassId} (h0 : XS0 l s0 A0 D dA) (σ : XS) (v : Int32) (fr : Int32) (re : Int32) (hok : MOk σ) : XMet l y_MO_limits [cw_MO_limits] rm_MO_limits (XP D dA s0 σ [.ref (xB s0 + XA 15 0), .int v, .int fr, .int re]) (XQs D dA s0 xv_v (.inl (S_MO_limits σ v fr re))) 0 0 (xAm s0) := by
  refine XMet.ofW (cc := b_MO_limits) (maxL := 4) (ret := none) (by decide) rfl ?_
  intro p e s m args below meth c s₁ Bd hml hvA
  obtain ⟨rfl, hX, hO⟩ := hvA
  have hx := Bd.exec
  have hb := Bd.bytes
  have hr := Bd.returns
  have hown : s.vm.findClass "LoadChecksModel" = some m.cls := findClass_of_methodNamed Bd.named
  have hlocks := Bd.notSynchronized
  have hnt : c.exceptionTable.isEmpty = true := Bd.noHandlers (atoms_spec (ws := [cw_MO_limits]) Bd.pre _ List.mem_cons_self)
  have hW0 := hO.1
  have hts := xs_w (args := ([.ref (xB s0 + XA 15 0), .int v, .int fr, .int re] : List Value).toArray) h0 hW0
  have hK := xs_K h0 hW0
  have hS := xo_S0 hO
  have hl := lv_entry ([.ref (xB s0 + XA 15 0), .int v, .int fr, .int re]) (n := 4) (Nat.le_of_ble_eq_true rfl)
  rw [lg_entry_eq]
  generalize (lg_sl ([.ref (xB s0 + XA 15 0), .int v, .int fr, .int re]) ++ List.replicate (4 - (lg_sl ([.ref (xB s0 + XA 15 0), .int v, .int fr, .int re])).length) Slot.unset).toArray = ls at hl ⊢
  have hl : lv_has ls 4 [(0, .ref (xB s0 + XA 15 0)), (1, .int v), (2, .int fr), (3, .int re)] := hl
  generalize hR : S_MO_limits σ v fr re = res
  unfold S_MO_limits at hR
  refine lv_aload_n hx hb d_MO_limits_0 rfl (lv_at hl 0 rfl) ?_
  refine lv_aload_n hx hb d_MO_limits_1 rfl (lv_at hl 0 rfl) ?_
  refine lv_iload_n hx hb d_MO_limits_2 rfl (lv_at hl 1 rfl) ?_
  obtain ⟨cB3, hcB3, hoB3, hkB3⟩ := xw_recv (r := 15) (i := 0) hK hX (by decide) rfl rfl
  refine xc_f (rest := [.ref (xB s0 + XA 15 0)]) (x_invV (argsL := [.int v]) hx hb hown (hts _ w_679) (hts _ w_681) (hts _ w_21) (x_code (hts _ w_682)) ⟨by decide, by decide⟩ hcB3 hoB3 hkB3 rfl rfl rfl d_MO_limits_3) (c_MO_isVehicle h0 σ v) (xs_cw h0 hW0 m_682) (hts _ w_38) ⟨rfl, rfl, Nat.le_of_ble_eq_true rfl, Nat.le_of_ble_eq_true rfl⟩ (hl.1.trans hml.symm) (by rw [hb]; exact d_MO_limits_3) (Nat.le_of_ble_eq_true rfl) ⟨Nat.le_of_ble_eq_true rfl, Nat.le_of_ble_eq_true rfl⟩ hX ⟨hW0, xo_S hS⟩ ?_
  refine lv_if_ne (tgt := 13) hx hb d_MO_limits_6 (by decide) (fun c6 => ?_) (fun c6 => ?_)
  · rw [if_neg c6] at hR
    have hv := m_veh hok c6
    refine lv_iconst (v := 0) hx hb d_MO_limits_13 (by decide) ?_
    refine lv_iload_n hx hb d_MO_limits_14 rfl (lv_at hl 2 rfl) ?_
    refine xc_f (rest := [.int (0 : Int32), .ref (xB s0 + XA 15 0)]) (x_invS (argsL := [.int fr]) hx hb hown (hts _ w_667) (hts _ w_668) (hts _ w_38) (x_code (hts _ w_669)) ⟨by decide, by decide⟩ rfl rfl rfl d_MO_limits_15) (c_MO_isLimit h0 σ fr) (xs_cw h0 hW0 m_669) (hts _ w_38) ⟨rfl, rfl, Nat.le_of_ble_eq_true rfl, Nat.le_of_ble_eq_true rfl⟩ (hl.1.trans hml.symm) (by rw [hb]; exact d_MO_limits_15) (Nat.le_of_ble_eq_true rfl) ⟨Nat.le_of_ble_eq_true rfl, Nat.le_of_ble_eq_true rfl⟩ hX ⟨hW0, xo_S hS⟩ ?_
    refine lv_if_eq (tgt := 28) hx hb d_MO_limits_18 (by decide) (fun c18 => ?_) (fun c18 => ?_)
    · rw [if_pos c18] at hR
      refine lv_iconst (v := 1) hx hb d_MO_limits_28 (by decide) ?_
      refine lv_goto (tgt := 33) hx hb d_MO_limits_29 (by decide) ?_
      refine lv_iconst (v := 0) hx hb d_MO_limits_33 (by decide) ?_
      refine lv_iconst (v := 0) hx hb d_MO_limits_34 (by decide) ?_
      obtain ⟨cB35, hcB35, hoB35, hkB35⟩ := xw_recv (r := 15) (i := 0) hK hX (by decide) rfl rfl
      refine xc_s (rest := []) (x_invV (argsL := [.int (0 : Int32), .int (1 : Int32), .int (0 : Int32), .int (0 : Int32)]) hx hb hown (hts _ w_671) (hts _ w_673) (hts _ w_20) (x_code (hts _ w_674)) ⟨by decide, by decide⟩ hcB35 hoB35 hkB35 rfl rfl rfl d_MO_limits_35) (c_MO_throwing h0 σ (0 : Int32) (1 : Int32) (0 : Int32) (0 : Int32)) (xs_cw h0 hW0 m_674) (hts _ w_38) ⟨rfl, rfl, Nat.le_of_ble_eq_true rfl, Nat.le_of_ble_eq_true rfl⟩ (hl.1.trans hml.symm) (by rw [hb]; exact d_MO_limits_35) (Nat.le_of_ble_eq_true rfl) ⟨Nat.le_of_ble_eq_true rfl, Nat.le_of_ble_eq_true rfl⟩ hX hW0 hS (fun v35 σ35 H locs hM35 hX hS => ?_) (fun E x H1 locs1 hM => by cases hM)
      obtain ⟨ev35, es35⟩ := x_inl hM35
      subst es35
      subst ev35
      refine lv_if_eq (tgt := 42) hx hb d_MO_limits_38 (by decide) (fun c38 => ?_) (fun c38 => ?_)
      · exact absurd c38 (thr_n2 (by decide))
      · subst hR
        refine W.widen (k := 0) (n := 0) (by decide) (by decide) ?_; exact xs_v hx hb hr hlocks hX hS d_MO_limits_41
    · rw [if_neg c18] at hR
      refine lv_iload_n hx hb d_MO_limits_21 rfl (lv_at hl 3 rfl) ?_
      refine xc_f (rest := [.int (0 : Int32), .ref (xB s0 + XA 15 0)]) (x_invS (argsL := [.int re]) hx hb hown (hts _ w_667) (hts _ w_668) (hts _ w_38) (x_code (hts _ w_669)) ⟨by decide, by decide⟩ rfl rfl rfl d_MO_limits_22) (c_MO_isLimit h0 σ re) (xs_cw h0 hW0 m_669) (hts _ w_38) ⟨rfl, rfl, Nat.le_of_ble_eq_true rfl, Nat.le_of_ble_eq_true rfl⟩ (hl.1.trans hml.symm) (by rw [hb]; exact d_MO_limits_22) (Nat.le_of_ble_eq_true rfl) ⟨Nat.le_of_ble_eq_true rfl, Nat.le_of_ble_eq_true rfl⟩ hX ⟨hW0, xo_S hS⟩ ?_
      refine lv_if_ne (tgt := 32) hx hb d_MO_limits_25 (by decide) (fun c25 => ?_) (fun c25 => ?_)
      · rw [if_neg c25] at hR
        refine lv_iconst (v := 0) hx hb d_MO_limits_32 (by decide) ?_
        refine lv_iconst (v := 0) hx hb d_MO_limits_33 (by decide) ?_
        refine lv_iconst (v := 0) hx hb d_MO_limits_34 (by decide) ?_
        obtain ⟨cB35, hcB35, hoB35, hkB35⟩ := xw_recv (r := 15) (i := 0) hK hX (by decide) rfl rfl
        refine xc_s (rest := []) (x_invV (argsL := [.int (0 : Int32), .int (0 : Int32), .int (0 : Int32), .int (0 : Int32)]) hx hb hown (hts _ w_671) (hts _ w_673) (hts _ w_20) (x_code (hts _ w_674)) ⟨by decide, by decide⟩ hcB35 hoB35 hkB35 rfl rfl rfl d_MO_limits_35) (c_MO_throwing h0 σ (0 : Int32) (0 : Int32) (0 : Int32) (0 : Int32)) (xs_cw h0 hW0 m_674) (hts _ w_38) ⟨rfl, rfl, Nat.le_of_ble_eq_true rfl, Nat.le_of_ble_eq_true rfl⟩ (hl.1.trans hml.symm) (by rw [hb]; exact d_MO_limits_35) (Nat.le_of_ble_eq_true rfl) ⟨Nat.le_of_ble_eq_true rfl, Nat.le_of_ble_eq_true rfl⟩ hX hW0 hS (fun v35 σ35 H locs hM35 hX hS => ?_) (fun E x H1 locs1 hM => by cases hM)
        obtain ⟨ev35, es35⟩ := x_inl hM35
        subst es35
        subst ev35
        refine lv_if_eq (tgt := 42) hx hb d_MO_limits_38 (by decide) (fun c38 => ?_) (fun c38 => ?_)
        · refine lv_aload_n hx hb d_MO_limits_42 rfl (lv_at hl 0 rfl) ?_
          refine xw_get (C := R_MO) (T := F_MO) (N := 20) (r := 15) (i := 0) hx hb hts hi_MO hown hK hX (by decide) rfl rfl 9 (by decide) (hts _ w_604) rfl rfl d_MO_limits_43 ?_
          refine lv_iload_n hx hb d_MO_limits_46 rfl (lv_at hl 1 rfl) ?_
          refine lv_iload_n hx hb d_MO_limits_47 rfl (lv_at hl 2 rfl) ?_
          refine xw_iast (r := 21) (i := 0) (ent' := XE dA (xB s0) (xuI (S_MO_throwing σ (0 : Int32) (0 : Int32) (0 : Int32) (0 : Int32)).2 21 0 v.toNatClampNeg fr)) hx hb hK xInj hX hS (xA_in _ _ _) (by decide) 0 rfl rfl (j := v) hv ((xe_uI dA (xB s0) ((S_MO_throwing σ (0 : Int32) (0 : Int32) (0 : Int32) (0 : Int32)).2) 21 0 v.toNatClampNeg fr).trans rfl) (xe_oI dA (xB s0) ((S_MO_throwing σ (0 : Int32) (0 : Int32) (0 : Int32) (0 : Int32)).2) 21 0 v.toNatClampNeg fr) d_MO_limits_48 (fun H locs hX hS => ?_)
          refine lv_aload_n hx hb d_MO_limits_49 rfl (lv_at hl 0 rfl) ?_
          refine xw_get (C := R_MO) (T := F_MO) (N := 20) (r := 15) (i := 0) hx hb hts hi_MO hown hK hX (by decide) rfl rfl 10 (by decide) (hts _ w_605) rfl rfl d_MO_limits_50 ?_
          refine lv_iload_n hx hb d_MO_limits_53 rfl (lv_at hl 1 rfl) ?_
          refine lv_iload_n hx hb d_MO_limits_54 rfl (lv_at hl 3 rfl) ?_
          refine xw_iast (r := 22) (i := 0) (ent' := XE dA (xB s0) (xuI (xuI (S_MO_throwing σ (0 : Int32) (0 : Int32) (0 : Int32) (0 : Int32)).2 21 0 v.toNatClampNeg fr) 22 0 v.toNatClampNeg re)) hx hb hK xInj hX hS (xA_in _ _ _) (by decide) 0 rfl rfl (j := v) hv ((xe_uI dA (xB s0) (xuI (S_MO_throwing σ (0 : Int32) (0 : Int32) (0 : Int32) (0 : Int32)).2 21 0 v.toNatClampNeg fr) 22 0 v.toNatClampNeg re).trans rfl) (xe_oI dA (xB s0) (xuI (S_MO_throwing σ (0 : Int32) (0 : Int32) (0 : Int32) (0 : Int32)).2 21 0 v.toNatClampNeg fr) 22 0 v.toNatClampNeg re) d_MO_limits_55 (fun H locs hX hS => ?_)
          subst hR
          refine W.widen (k := 0) (n := 0) (by decide) (by decide) ?_; exact xs_v hx hb hr hlocks hX hS d_MO_limits_56
        · exact absurd thr_z c38
      · rw [if_pos c25] at hR
        refine lv_iconst (v := 1) hx hb d_MO_limits_28 (by decide) ?_
        refine lv_goto (tgt := 33) hx hb d_MO_limits_29 (by decide) ?_
        refine lv_iconst (v := 0) hx hb d_MO_limits_33 (by decide) ?_
        refine lv_iconst (v := 0) hx hb d_MO_limits_34 (by decide) ?_
        obtain ⟨cB35, hcB35, hoB35, hkB35⟩ := xw_recv (r := 15) (i := 0) hK hX (by decide) rfl rfl
        refine xc_s (rest := []) (x_invV (argsL := [.int (0 : Int32), .int (1 : Int32), .int (0 : Int32), .int (0 : Int32)]) hx hb hown (hts _ w_671) (hts _ w_673) (hts _ w_20) (x_code (hts _ w_674)) ⟨by decide, by decide⟩ hcB35 hoB35 hkB35 rfl rfl rfl d_MO_limits_35) (c_MO_throwing h0 σ (0 : Int32) (1 : Int32) (0 : Int32) (0 : Int32)) (xs_cw h0 hW0 m_674) (hts _ w_38) ⟨rfl, rfl, Nat.le_of_ble_eq_true rfl, Nat.le_of_ble_eq_true rfl⟩ (hl.1.trans hml.symm) (by rw [hb]; exact d_MO_limits_35) (Nat.le_of_ble_eq_true rfl) ⟨Nat.le_of_ble_eq_true rfl, Nat.le_of_ble_eq_true rfl⟩ hX hW0 hS (fun v35 σ35 H locs hM35 hX hS => ?_) (fun E x H1 locs1 hM => by cases hM)
        obtain ⟨ev35, es35⟩ := x_inl hM35
        subst es35
        subst ev35
        refine lv_if_eq (tgt := 42) hx hb d_MO_limits_38 (by decide) (fun c38 => ?_) (fun c38 => ?_)
        · exact absurd c38 (thr_n2 (by decide))
        · subst hR
          refine W.widen (k := 0) (n := 0) (by decide) (by decide) ?_; exact xs_v hx hb hr hlocks hX hS d_MO_limits_41
  · rw [if_pos c6] at hR
    refine lv_iconst (v := 1) hx hb d_MO_limits_9 (by decide) ?_
    refine lv_goto (tgt := 14) hx hb d_MO_limits_10 (by decide) ?_
    refine lv_iload_n hx hb d_MO_limits_14 rfl (lv_at hl 2 rfl) ?_
    refine xc_f (rest := [.int (1 : Int32), .ref (xB s0 + XA 15 0)]) (x_invS (argsL := [.int fr]) hx hb hown (hts _ w_667) (hts _ w_668) (hts _ w_38) (x_code (hts _ w_669)) ⟨by decide, by decide⟩ rfl rfl rfl d_MO_limits_15) (c_MO_isLimit h0 σ fr) (xs_cw h0 hW0 m_669) (hts _ w_38) ⟨rfl, rfl, Nat.le_of_ble_eq_true rfl, Nat.le_of_ble_eq_true rfl⟩ (hl.1.trans hml.symm) (by rw [hb]; exact d_MO_limits_15) (Nat.le_of_ble_eq_true rfl) ⟨Nat.le_of_ble_eq_true rfl, Nat.le_of_ble_eq_true rfl⟩ hX ⟨hW0, xo_S hS⟩ ?_
    refine lv_if_eq (tgt := 28) hx hb d_MO_limits_18 (by decide) (fun c18 => ?_) (fun c18 => ?_)
    · rw [if_pos c18] at hR
      refine lv_iconst (v := 1) hx hb d_MO_limits_28 (by decide) ?_
      refine lv_goto (tgt := 33) hx hb d_MO_limits_29 (by decide) ?_
      refine lv_iconst (v := 0) hx hb d_MO_limits_33 (by decide) ?_
      refine lv_iconst (v := 0) hx hb d_MO_limits_34 (by decide) ?_
      obtain ⟨cB35, hcB35, hoB35, hkB35⟩ := xw_recv (r := 15) (i := 0) hK hX (by decide) rfl rfl
      refine xc_s (rest := []) (x_invV (argsL := [.int (1 : Int32), .int (1 : Int32), .int (0 : Int32), .int (0 : Int32)]) hx hb hown (hts _ w_671) (hts _ w_673) (hts _ w_20) (x_code (hts _ w_674)) ⟨by decide, by decide⟩ hcB35 hoB35 hkB35 rfl rfl rfl d_MO_limits_35) (c_MO_throwing h0 σ (1 : Int32) (1 : Int32) (0 : Int32) (0 : Int32)) (xs_cw h0 hW0 m_674) (hts _ w_38) ⟨rfl, rfl, Nat.le_of_ble_eq_true rfl, Nat.le_of_ble_eq_true rfl⟩ (hl.1.trans hml.symm) (by rw [hb]; exact d_MO_limits_35) (Nat.le_of_ble_eq_true rfl) ⟨Nat.le_of_ble_eq_true rfl, Nat.le_of_ble_eq_true rfl⟩ hX hW0 hS (fun v35 σ35 H locs hM35 hX hS => ?_) (fun E x H1 locs1 hM => by cases hM)
      obtain ⟨ev35, es35⟩ := x_inl hM35
      subst es35
      subst ev35
      refine lv_if_eq (tgt := 42) hx hb d_MO_limits_38 (by decide) (fun c38 => ?_) (fun c38 => ?_)
      · exact absurd c38 (thr_n1 (by decide))
      · subst hR
        refine W.widen (k := 0) (n := 0) (by decide) (by decide) ?_; exact xs_v hx hb hr hlocks hX hS d_MO_limits_41
    · rw [if_neg c18] at hR
      refine lv_iload_n hx hb d_MO_limits_21 rfl (lv_at hl 3 rfl) ?_
      refine xc_f (rest := [.int (1 : Int32), .ref (xB s0 + XA 15 0)]) (x_invS (argsL := [.int re]) hx hb hown (hts _ w_667) (hts _ w_668) (hts _ w_38) (x_code (hts _ w_669)) ⟨by decide, by decide⟩ rfl rfl rfl d_MO_limits_22) (c_MO_isLimit h0 σ re) (xs_cw h0 hW0 m_669) (hts _ w_38) ⟨rfl, rfl, Nat.le_of_ble_eq_true rfl, Nat.le_of_ble_eq_true rfl⟩ (hl.1.trans hml.symm) (by rw [hb]; exact d_MO_limits_22) (Nat.le_of_ble_eq_true rfl) ⟨Nat.le_of_ble_eq_true rfl, Nat.le_of_ble_eq_true rfl⟩ hX ⟨hW0, xo_S hS⟩ ?_
      refine lv_if_ne (tgt := 32) hx hb d_MO_limits_25 (by decide) (fun c25 => ?_) (fun c25 => ?_)
      · rw [if_neg c25] at hR
        refine lv_iconst (v := 0) hx hb d_MO_limits_32 (by decide) ?_
        refine lv_iconst (v := 0) hx hb d_MO_limits_33 (by decide) ?_
        refine lv_iconst (v := 0) hx hb d_MO_limits_34 (by decide) ?_
        obtain ⟨cB35, hcB35, hoB35, hkB35⟩ := xw_recv (r := 15) (i := 0) hK hX (by decide) rfl rfl
        refine xc_s (rest := []) (x_invV (argsL := [.int (1 : Int32), .int (0 : Int32), .int (0 : Int32), .int (0 : Int32)]) hx hb hown (hts _ w_671) (hts _ w_673) (hts _ w_20) (x_code (hts _ w_674)) ⟨by decide, by decide⟩ hcB35 hoB35 hkB35 rfl rfl rfl d_MO_limits_35) (c_MO_throwing h0 σ (1 : Int32) (0 : Int32) (0 : Int32) (0 : Int32)) (xs_cw h0 hW0 m_674) (hts _ w_38) ⟨rfl, rfl, Nat.le_of_ble_eq_true rfl, Nat.le_of_ble_eq_true rfl⟩ (hl.1.trans hml.symm) (by rw [hb]; exact d_MO_limits_35) (Nat.le_of_ble_eq_true rfl) ⟨Nat.le_of_ble_eq_true rfl, Nat.le_of_ble_eq_true rfl⟩ hX hW0 hS (fun v35 σ35 H locs hM35 hX hS => ?_) (fun E x H1 locs1 hM => by cases hM)
        obtain ⟨ev35, es35⟩ := x_inl hM35
        subst es35
        subst ev35
        refine lv_if_eq (tgt := 42) hx hb d_MO_limits_38 (by decide) (fun c38 => ?_) (fun c38 => ?_)
        · exact absurd c38 (thr_n1 (by decide))
        · subst hR
          refine W.widen (k := 0) (n := 0) (by decide) (by decide) ?_; exact xs_v hx hb hr hlocks hX hS d_MO_limits_41
      · rw [if_pos c25] at hR
        refine lv_iconst (v := 1) hx hb d_MO_limits_28 (by decide) ?_
        refine lv_goto (tgt := 33) hx hb d_MO_limits_29 (by decide) ?_
        refine lv_iconst (v := 0) hx hb d_MO_limits_33 (by decide) ?_
        refine lv_iconst (v := 0) hx hb d_MO_limits_34 (by decide) ?_
        obtain ⟨cB35, hcB35, hoB35, hkB35⟩ := xw_recv (r := 15) (i := 0) hK hX (by decide) rfl rfl
        refine xc_s (rest := []) (x_invV (argsL := [.int (1 : Int32), .int (1 : Int32), .int (0 : Int32), .int (0 : Int32)]) hx hb hown (hts _ w_671) (hts _ w_673) (hts _ w_20) (x_code (hts _ w_674)) ⟨by decide, by decide⟩ hcB35 hoB35 hkB35 rfl rfl rfl d_MO_limits_35) (c_MO_throwing h0 σ (1 : Int32) (1 : Int32) (0 : Int32) (0 : Int32)) (xs_cw h0 hW0 m_674) (hts _ w_38) ⟨rfl, rfl, Nat.le_of_ble_eq_true rfl, Nat.le_of_ble_eq_true rfl⟩ (hl.1.trans hml.symm) (by rw [hb]; exact d_MO_limits_35) (Nat.le_of_ble_eq_true rfl) ⟨Nat.le_of_ble_eq_true rfl, Nat.le_of_ble_eq_true rfl⟩ hX hW0 hS (fun v35 σ35 H locs hM35 hX hS => ?_) (fun E x H1 locs1 hM => by cases hM)
        obtain ⟨ev35, es35⟩ := x_inl hM35
        subst es35
        subst ev35
        refine lv_if_eq (tgt := 42) hx hb d_MO_limits_38 (by decide) (fun c38 => ?_) (fun c38 => ?_)
        · exact absurd c38 (thr_n1 (by decide))
        · subst hR
          refine W.widen (k := 0) (n := 0) (by decide) (by decide) ?_; exact xs_v hx hb hr hlocks hX hS d_MO_limits_41

abbrev rm_MO_place : Room := { frames := 2, cells := 0, slots := 0, locals := 43 }
def S_MO_place (σ : XS) (v : Int32) (cu : Int32) (mm : Int32) : Unit × XS := (if (S_MO_isVehicle σ v) = 0 then (if (S_MO_in σ mm (-2000 : Int32) (10000 : Int32)) = 0 then ((), (S_MO_throwing σ (1 : Int32) (1 : Int32) (0 : Int32) (0 : Int32)).2) else ((), (S_MO_throwing σ (1 : Int32) (0 : Int32) (0 : Int32) (0 : Int32)).2)) else (if (S_MO_isCupboard σ cu) = 0 then (if (S_MO_in σ mm (-2000 : Int32) (10000 : Int32)) = 0 then ((), (S_MO_throwing σ (1 : Int32) (1 : Int32) (0 : Int32) (0 : Int32)).2) else ((), (S_MO_throwing σ (1 : Int32) (0 : Int32) (0 : Int32) (0 : Int32)).2)) else (if (S_MO_in σ mm (-2000 : Int32) (10000 : Int32)) = 0 then (if (S_MO_isEmpty σ v cu) = 0 then ((), (S_MO_throwing σ (0 : Int32) (1 : Int32) (1 : Int32) (0 : Int32)).2) else ((), (S_MO_throwing σ (0 : Int32) (1 : Int32) (0 : Int32) (0 : Int32)).2)) else (if (S_MO_isEmpty σ v cu) = 0 then ((), (S_MO_throwing σ (0 : Int32) (0 : Int32) (1 : Int32) (0 : Int32)).2) else ((), (xuI (S_MO_throwing σ (0 : Int32) (0 : Int32) (0 : Int32) (0 : Int32)).2 24 0 (((8 : Int32) * v) + cu).toNatClampNeg mm))))))
set_option maxHeartbeats 4000000 in
set_option maxRecDepth 100000 in
theorem c_MO_place {l : Launch} {s0 : State} {A0 : Array Value} {D : va_G} {dA : Nat → ClassId} (h0 : XS0 l s0 A0 D dA) (σ : XS) (v : Int32) (cu : Int32) (mm : Int32) (hok : MOk σ) : XMet l y_MO_place [cw_MO_place] rm_MO_place (XP D dA s0 σ [.ref (xB s0 + XA 15 0), .int v, .int cu, .int mm]) (XQs D dA s0 xv_v (.inl (S_MO_place σ v cu mm))) 0 0 (xAm s0) := by
  refine XMet.ofW (cc := b_MO_place) (maxL := 5) (ret := none) (by decide) rfl ?_
  intro p e s m args below meth c s₁ Bd hml hvA
  obtain ⟨rfl, hX, hO⟩ := hvA
  have hx := Bd.exec
  have hb := Bd.bytes
  have hr := Bd.returns
  have hown : s.vm.findClass "LoadChecksModel" = some m.cls := findClass_of_methodNamed Bd.named
  have hlocks := Bd.notSynchronized
  have hnt : c.exceptionTable.isEmpty = true := Bd.noHandlers (atoms_spec (ws := [cw_MO_place]) Bd.pre _ List.mem_cons_self)
  have hW0 := hO.1
  have hts := xs_w (args := ([.ref (xB s0 + XA 15 0), .int v, .int cu, .int mm] : List Value).toArray) h0 hW0
  have hK := xs_K h0 hW0
  have hS := xo_S0 hO
  have hl := lv_entry ([.ref (xB s0 + XA 15 0), .int v, .int cu, .int mm]) (n := 5) (Nat.le_of_ble_eq_true rfl)
  rw [lg_entry_eq]
  generalize (lg_sl ([.ref (xB s0 + XA 15 0), .int v, .int cu, .int mm]) ++ List.replicate (5 - (lg_sl ([.ref (xB s0 + XA 15 0), .int v, .int cu, .int mm])).length) Slot.unset).toArray = ls at hl ⊢
  have hl : lv_has ls 5 [(0, .ref (xB s0 + XA 15 0)), (1, .int v), (2, .int cu), (3, .int mm)] := hl
  generalize hR : S_MO_place σ v cu mm = res
  unfold S_MO_place at hR
  refine lv_aload_n hx hb d_MO_place_0 rfl (lv_at hl 0 rfl) ?_
  refine lv_iload_n hx hb d_MO_place_1 rfl (lv_at hl 1 rfl) ?_
  obtain ⟨cB2, hcB2, hoB2, hkB2⟩ := xw_recv (r := 15) (i := 0) hK hX (by decide) rfl rfl
  refine xc_f (rest := []) (x_invV (argsL := [.int v]) hx hb hown (hts _ w_679) (hts _ w_681) (hts _ w_21) (x_code (hts _ w_682)) ⟨by decide, by decide⟩ hcB2 hoB2 hkB2 rfl rfl rfl d_MO_place_2) (c_MO_isVehicle h0 σ v) (xs_cw h0 hW0 m_682) (hts _ w_38) ⟨rfl, rfl, Nat.le_of_ble_eq_true rfl, Nat.le_of_ble_eq_true rfl⟩ (hl.1.trans hml.symm) (by rw [hb]; exact d_MO_place_2) (Nat.le_of_ble_eq_true rfl) ⟨Nat.le_of_ble_eq_true rfl, Nat.le_of_ble_eq_true rfl⟩ hX ⟨hW0, xo_S hS⟩ ?_
  refine lv_if_eq (tgt := 15) hx hb d_MO_place_5 (by decide) (fun c5 => ?_) (fun c5 => ?_)
  · rw [if_pos c5] at hR
    refine lv_iconst (v := 1) hx hb d_MO_place_15 (by decide) ?_
    refine lv_goto (tgt := 20) hx hb d_MO_place_16 (by decide) ?_
    refine lv_istore (lv' := [(4, .int (1 : Int32)), (0, .ref (xB s0 + XA 15 0)), (1, .int v), (2, .int cu), (3, .int mm)]) hx hb d_MO_place_20 hl (by decide) rfl (fun ls hl => ?_)
    refine lv_aload_n hx hb d_MO_place_22 rfl (lv_at hl 1 rfl) ?_
    refine lv_iload hx hb d_MO_place_23 (lv_at hl 0 rfl) ?_
    refine lv_iload_n hx hb d_MO_place_25 rfl (lv_at hl 4 rfl) ?_
    refine lv_sipush (v := -2000) hx hb d_MO_place_26 (by decide) ?_
    refine lv_sipush (v := 10000) hx hb d_MO_place_29 (by decide) ?_
    refine xc_f (rest := [.int (1 : Int32), .ref (xB s0 + XA 15 0)]) (x_invS (argsL := [.int mm, .int (-2000 : Int32), .int (10000 : Int32)]) hx hb hown (hts _ w_664) (hts _ w_665) (hts _ w_38) (x_code (hts _ w_666)) ⟨by decide, by decide⟩ rfl rfl rfl d_MO_place_32) (c_MO_in h0 σ mm (-2000 : Int32) (10000 : Int32)) (xs_cw h0 hW0 m_666) (hts _ w_38) ⟨rfl, rfl, Nat.le_of_ble_eq_true rfl, Nat.le_of_ble_eq_true rfl⟩ (hl.1.trans hml.symm) (by rw [hb]; exact d_MO_place_32) (Nat.le_of_ble_eq_true rfl) ⟨Nat.le_of_ble_eq_true rfl, Nat.le_of_ble_eq_true rfl⟩ hX ⟨hW0, xo_S hS⟩ ?_
    refine lv_if_ne (tgt := 42) hx hb d_MO_place_35 (by decide) (fun c35 => ?_) (fun c35 => ?_)
    · rw [if_neg c35] at hR
      refine lv_iconst (v := 0) hx hb d_MO_place_42 (by decide) ?_
      refine lv_iload hx hb d_MO_place_43 (lv_at hl 0 rfl) ?_
      refine lv_if_ne (tgt := 61) hx hb d_MO_place_45 (by decide) (fun c45 => ?_) (fun c45 => ?_)
      · refine lv_iconst (v := 0) hx hb d_MO_place_61 (by decide) ?_
        refine lv_iconst (v := 0) hx hb d_MO_place_62 (by decide) ?_
        obtain ⟨cB63, hcB63, hoB63, hkB63⟩ := xw_recv (r := 15) (i := 0) hK hX (by decide) rfl rfl
        refine xc_s (rest := []) (x_invV (argsL := [.int (1 : Int32), .int (0 : Int32), .int (0 : Int32), .int (0 : Int32)]) hx hb hown (hts _ w_671) (hts _ w_673) (hts _ w_20) (x_code (hts _ w_674)) ⟨by decide, by decide⟩ hcB63 hoB63 hkB63 rfl rfl rfl d_MO_place_63) (c_MO_throwing h0 σ (1 : Int32) (0 : Int32) (0 : Int32) (0 : Int32)) (xs_cw h0 hW0 m_674) (hts _ w_38) ⟨rfl, rfl, Nat.le_of_ble_eq_true rfl, Nat.le_of_ble_eq_true rfl⟩ (hl.1.trans hml.symm) (by rw [hb]; exact d_MO_place_63) (Nat.le_of_ble_eq_true rfl) ⟨Nat.le_of_ble_eq_true rfl, Nat.le_of_ble_eq_true rfl⟩ hX hW0 hS (fun v63 σ63 H locs hM63 hX hS => ?_) (fun E x H1 locs1 hM => by cases hM)
        obtain ⟨ev63, es63⟩ := x_inl hM63
        subst es63
        subst ev63
        refine lv_if_eq (tgt := 70) hx hb d_MO_place_66 (by decide) (fun c66 => ?_) (fun c66 => ?_)
        · exact absurd c66 (thr_n1 (by decide))
        · subst hR
          refine W.widen (k := 0) (n := 0) (by decide) (by decide) ?_; exact xs_v hx hb hr hlocks hX hS d_MO_place_69
      · exact absurd c45 (by decide)
    · rw [if_pos c35] at hR
      refine lv_iconst (v := 1) hx hb d_MO_place_38 (by decide) ?_
      refine lv_goto (tgt := 43) hx hb d_MO_place_39 (by decide) ?_
      refine lv_iload hx hb d_MO_place_43 (lv_at hl 0 rfl) ?_
      refine lv_if_ne (tgt := 61) hx hb d_MO_place_45 (by decide) (fun c45 => ?_) (fun c45 => ?_)
      · refine lv_iconst (v := 0) hx hb d_MO_place_61 (by decide) ?_
        refine lv_iconst (v := 0) hx hb d_MO_place_62 (by decide) ?_
        obtain ⟨cB63, hcB63, hoB63, hkB63⟩ := xw_recv (r := 15) (i := 0) hK hX (by decide) rfl rfl
        refine xc_s (rest := []) (x_invV (argsL := [.int (1 : Int32), .int (1 : Int32), .int (0 : Int32), .int (0 : Int32)]) hx hb hown (hts _ w_671) (hts _ w_673) (hts _ w_20) (x_code (hts _ w_674)) ⟨by decide, by decide⟩ hcB63 hoB63 hkB63 rfl rfl rfl d_MO_place_63) (c_MO_throwing h0 σ (1 : Int32) (1 : Int32) (0 : Int32) (0 : Int32)) (xs_cw h0 hW0 m_674) (hts _ w_38) ⟨rfl, rfl, Nat.le_of_ble_eq_true rfl, Nat.le_of_ble_eq_true rfl⟩ (hl.1.trans hml.symm) (by rw [hb]; exact d_MO_place_63) (Nat.le_of_ble_eq_true rfl) ⟨Nat.le_of_ble_eq_true rfl, Nat.le_of_ble_eq_true rfl⟩ hX hW0 hS (fun v63 σ63 H locs hM63 hX hS => ?_) (fun E x H1 locs1 hM => by cases hM)
        obtain ⟨ev63, es63⟩ := x_inl hM63
        subst es63
        subst ev63
        refine lv_if_eq (tgt := 70) hx hb d_MO_place_66 (by decide) (fun c66 => ?_) (fun c66 => ?_)
        · exact absurd c66 (thr_n1 (by decide))
        · subst hR
          refine W.widen (k := 0) (n := 0) (by decide) (by decide) ?_; exact xs_v hx hb hr hlocks hX hS d_MO_place_69
      · exact absurd c45 (by decide)
  · rw [if_neg c5] at hR
    refine lv_iload_n hx hb d_MO_place_8 rfl (lv_at hl 2 rfl) ?_
    refine xc_f (rest := []) (x_invS (argsL := [.int cu]) hx hb hown (hts _ w_687) (hts _ w_688) (hts _ w_38) (x_code (hts _ w_689)) ⟨by decide, by decide⟩ rfl rfl rfl d_MO_place_9) (c_MO_isCupboard h0 σ cu) (xs_cw h0 hW0 m_689) (hts _ w_38) ⟨rfl, rfl, Nat.le_of_ble_eq_true rfl, Nat.le_of_ble_eq_true rfl⟩ (hl.1.trans hml.symm) (by rw [hb]; exact d_MO_place_9) (Nat.le_of_ble_eq_true rfl) ⟨Nat.le_of_ble_eq_true rfl, Nat.le_of_ble_eq_true rfl⟩ hX ⟨hW0, xo_S hS⟩ ?_
    refine lv_if_ne (tgt := 19) hx hb d_MO_place_12 (by decide) (fun c12 => ?_) (fun c12 => ?_)
    · rw [if_neg c12] at hR
      have hv := m_veh hok c5
      have hc := m_cup c12
      refine lv_iconst (v := 0) hx hb d_MO_place_19 (by decide) ?_
      refine lv_istore (lv' := [(4, .int (0 : Int32)), (0, .ref (xB s0 + XA 15 0)), (1, .int v), (2, .int cu), (3, .int mm)]) hx hb d_MO_place_20 hl (by decide) rfl (fun ls hl => ?_)
      refine lv_aload_n hx hb d_MO_place_22 rfl (lv_at hl 1 rfl) ?_
      refine lv_iload hx hb d_MO_place_23 (lv_at hl 0 rfl) ?_
      refine lv_iload_n hx hb d_MO_place_25 rfl (lv_at hl 4 rfl) ?_
      refine lv_sipush (v := -2000) hx hb d_MO_place_26 (by decide) ?_
      refine lv_sipush (v := 10000) hx hb d_MO_place_29 (by decide) ?_
      refine xc_f (rest := [.int (0 : Int32), .ref (xB s0 + XA 15 0)]) (x_invS (argsL := [.int mm, .int (-2000 : Int32), .int (10000 : Int32)]) hx hb hown (hts _ w_664) (hts _ w_665) (hts _ w_38) (x_code (hts _ w_666)) ⟨by decide, by decide⟩ rfl rfl rfl d_MO_place_32) (c_MO_in h0 σ mm (-2000 : Int32) (10000 : Int32)) (xs_cw h0 hW0 m_666) (hts _ w_38) ⟨rfl, rfl, Nat.le_of_ble_eq_true rfl, Nat.le_of_ble_eq_true rfl⟩ (hl.1.trans hml.symm) (by rw [hb]; exact d_MO_place_32) (Nat.le_of_ble_eq_true rfl) ⟨Nat.le_of_ble_eq_true rfl, Nat.le_of_ble_eq_true rfl⟩ hX ⟨hW0, xo_S hS⟩ ?_
      refine lv_if_ne (tgt := 42) hx hb d_MO_place_35 (by decide) (fun c35 => ?_) (fun c35 => ?_)
      · rw [if_neg c35] at hR
        refine lv_iconst (v := 0) hx hb d_MO_place_42 (by decide) ?_
        refine lv_iload hx hb d_MO_place_43 (lv_at hl 0 rfl) ?_
        refine lv_if_ne (tgt := 61) hx hb d_MO_place_45 (by decide) (fun c45 => ?_) (fun c45 => ?_)
        · exact absurd (by decide) c45
        · refine lv_aload_n hx hb d_MO_place_48 rfl (lv_at hl 1 rfl) ?_
          refine lv_iload_n hx hb d_MO_place_49 rfl (lv_at hl 2 rfl) ?_
          refine lv_iload_n hx hb d_MO_place_50 rfl (lv_at hl 3 rfl) ?_
          obtain ⟨cB51, hcB51, hoB51, hkB51⟩ := xw_recv (r := 15) (i := 0) hK hX (by decide) rfl rfl
          refine xc_f (rest := [.int (0 : Int32), .int (0 : Int32), .ref (xB s0 + XA 15 0)]) (x_invV (argsL := [.int v, .int cu]) hx hb hown (hts _ w_690) (hts _ w_692) (hts _ w_22) (x_code (hts _ w_693)) ⟨by decide, by decide⟩ hcB51 hoB51 hkB51 rfl rfl rfl d_MO_place_51) (c_MO_isEmpty h0 σ v cu hv hc) (xs_cw h0 hW0 m_693) (hts _ w_38) ⟨rfl, rfl, Nat.le_of_ble_eq_true rfl, Nat.le_of_ble_eq_true rfl⟩ (hl.1.trans hml.symm) (by rw [hb]; exact d_MO_place_51) (Nat.le_of_ble_eq_true rfl) ⟨Nat.le_of_ble_eq_true rfl, Nat.le_of_ble_eq_true rfl⟩ hX ⟨hW0, xo_S hS⟩ ?_
          refine lv_if_ne (tgt := 61) hx hb d_MO_place_54 (by decide) (fun c54 => ?_) (fun c54 => ?_)
          · rw [if_neg c54] at hR
            refine lv_iconst (v := 0) hx hb d_MO_place_61 (by decide) ?_
            refine lv_iconst (v := 0) hx hb d_MO_place_62 (by decide) ?_
            obtain ⟨cB63, hcB63, hoB63, hkB63⟩ := xw_recv (r := 15) (i := 0) hK hX (by decide) rfl rfl
            refine xc_s (rest := []) (x_invV (argsL := [.int (0 : Int32), .int (0 : Int32), .int (0 : Int32), .int (0 : Int32)]) hx hb hown (hts _ w_671) (hts _ w_673) (hts _ w_20) (x_code (hts _ w_674)) ⟨by decide, by decide⟩ hcB63 hoB63 hkB63 rfl rfl rfl d_MO_place_63) (c_MO_throwing h0 σ (0 : Int32) (0 : Int32) (0 : Int32) (0 : Int32)) (xs_cw h0 hW0 m_674) (hts _ w_38) ⟨rfl, rfl, Nat.le_of_ble_eq_true rfl, Nat.le_of_ble_eq_true rfl⟩ (hl.1.trans hml.symm) (by rw [hb]; exact d_MO_place_63) (Nat.le_of_ble_eq_true rfl) ⟨Nat.le_of_ble_eq_true rfl, Nat.le_of_ble_eq_true rfl⟩ hX hW0 hS (fun v63 σ63 H locs hM63 hX hS => ?_) (fun E x H1 locs1 hM => by cases hM)
            obtain ⟨ev63, es63⟩ := x_inl hM63
            subst es63
            subst ev63
            refine lv_if_eq (tgt := 70) hx hb d_MO_place_66 (by decide) (fun c66 => ?_) (fun c66 => ?_)
            · refine lv_aload_n hx hb d_MO_place_70 rfl (lv_at hl 1 rfl) ?_
              refine xw_get (C := R_MO) (T := F_MO) (N := 20) (r := 15) (i := 0) hx hb hts hi_MO hown hK hX (by decide) rfl rfl 12 (by decide) (hts _ w_607) rfl rfl d_MO_place_71 ?_
              refine lv_bipush (v := 8) hx hb d_MO_place_74 (by decide) ?_
              refine lv_iload_n hx hb d_MO_place_76 rfl (lv_at hl 2 rfl) ?_
              refine lv_imul hx hb d_MO_place_77 ?_
              refine lv_iload_n hx hb d_MO_place_78 rfl (lv_at hl 3 rfl) ?_
              refine lv_iadd hx hb d_MO_place_79 ?_
              refine lv_iload_n hx hb d_MO_place_80 rfl (lv_at hl 4 rfl) ?_
              refine xw_iast (r := 24) (i := 0) (ent' := XE dA (xB s0) (xuI (S_MO_throwing σ (0 : Int32) (0 : Int32) (0 : Int32) (0 : Int32)).2 24 0 (((8 : Int32) * v) + cu).toNatClampNeg mm)) hx hb hK xInj hX hS (xA_in _ _ _) (by decide) 0 rfl rfl (j := (((8 : Int32) * v) + cu)) (o_8 hv hc) ((xe_uI dA (xB s0) ((S_MO_throwing σ (0 : Int32) (0 : Int32) (0 : Int32) (0 : Int32)).2) 24 0 (((8 : Int32) * v) + cu).toNatClampNeg mm).trans rfl) (xe_oI dA (xB s0) ((S_MO_throwing σ (0 : Int32) (0 : Int32) (0 : Int32) (0 : Int32)).2) 24 0 (((8 : Int32) * v) + cu).toNatClampNeg mm) d_MO_place_81 (fun H locs hX hS => ?_)
              subst hR
              refine W.widen (k := 0) (n := 0) (by decide) (by decide) ?_; exact xs_v hx hb hr hlocks hX hS d_MO_place_82
            · exact absurd thr_z c66
          · rw [if_pos c54] at hR
            refine lv_iconst (v := 1) hx hb d_MO_place_57 (by decide) ?_
            refine lv_goto (tgt := 62) hx hb d_MO_place_58 (by decide) ?_
            refine lv_iconst (v := 0) hx hb d_MO_place_62 (by decide) ?_
            obtain ⟨cB63, hcB63, hoB63, hkB63⟩ := xw_recv (r := 15) (i := 0) hK hX (by decide) rfl rfl
            refine xc_s (rest := []) (x_invV (argsL := [.int (0 : Int32), .int (0 : Int32), .int (1 : Int32), .int (0 : Int32)]) hx hb hown (hts _ w_671) (hts _ w_673) (hts _ w_20) (x_code (hts _ w_674)) ⟨by decide, by decide⟩ hcB63 hoB63 hkB63 rfl rfl rfl d_MO_place_63) (c_MO_throwing h0 σ (0 : Int32) (0 : Int32) (1 : Int32) (0 : Int32)) (xs_cw h0 hW0 m_674) (hts _ w_38) ⟨rfl, rfl, Nat.le_of_ble_eq_true rfl, Nat.le_of_ble_eq_true rfl⟩ (hl.1.trans hml.symm) (by rw [hb]; exact d_MO_place_63) (Nat.le_of_ble_eq_true rfl) ⟨Nat.le_of_ble_eq_true rfl, Nat.le_of_ble_eq_true rfl⟩ hX hW0 hS (fun v63 σ63 H locs hM63 hX hS => ?_) (fun E x H1 locs1 hM => by cases hM)
            obtain ⟨ev63, es63⟩ := x_inl hM63
            subst es63
            subst ev63
            refine lv_if_eq (tgt := 70) hx hb d_MO_place_66 (by decide) (fun c66 => ?_) (fun c66 => ?_)
            · exact absurd c66 (thr_n3 (by decide))
            · subst hR
              refine W.widen (k := 0) (n := 0) (by decide) (by decide) ?_; exact xs_v hx hb hr hlocks hX hS d_MO_place_69
      · rw [if_pos c35] at hR
        refine lv_iconst (v := 1) hx hb d_MO_place_38 (by decide) ?_
        refine lv_goto (tgt := 43) hx hb d_MO_place_39 (by decide) ?_
        refine lv_iload hx hb d_MO_place_43 (lv_at hl 0 rfl) ?_
        refine lv_if_ne (tgt := 61) hx hb d_MO_place_45 (by decide) (fun c45 => ?_) (fun c45 => ?_)
        · exact absurd (by decide) c45
        · refine lv_aload_n hx hb d_MO_place_48 rfl (lv_at hl 1 rfl) ?_
          refine lv_iload_n hx hb d_MO_place_49 rfl (lv_at hl 2 rfl) ?_
          refine lv_iload_n hx hb d_MO_place_50 rfl (lv_at hl 3 rfl) ?_
          obtain ⟨cB51, hcB51, hoB51, hkB51⟩ := xw_recv (r := 15) (i := 0) hK hX (by decide) rfl rfl
          refine xc_f (rest := [.int (1 : Int32), .int (0 : Int32), .ref (xB s0 + XA 15 0)]) (x_invV (argsL := [.int v, .int cu]) hx hb hown (hts _ w_690) (hts _ w_692) (hts _ w_22) (x_code (hts _ w_693)) ⟨by decide, by decide⟩ hcB51 hoB51 hkB51 rfl rfl rfl d_MO_place_51) (c_MO_isEmpty h0 σ v cu hv hc) (xs_cw h0 hW0 m_693) (hts _ w_38) ⟨rfl, rfl, Nat.le_of_ble_eq_true rfl, Nat.le_of_ble_eq_true rfl⟩ (hl.1.trans hml.symm) (by rw [hb]; exact d_MO_place_51) (Nat.le_of_ble_eq_true rfl) ⟨Nat.le_of_ble_eq_true rfl, Nat.le_of_ble_eq_true rfl⟩ hX ⟨hW0, xo_S hS⟩ ?_
          refine lv_if_ne (tgt := 61) hx hb d_MO_place_54 (by decide) (fun c54 => ?_) (fun c54 => ?_)
          · rw [if_neg c54] at hR
            refine lv_iconst (v := 0) hx hb d_MO_place_61 (by decide) ?_
            refine lv_iconst (v := 0) hx hb d_MO_place_62 (by decide) ?_
            obtain ⟨cB63, hcB63, hoB63, hkB63⟩ := xw_recv (r := 15) (i := 0) hK hX (by decide) rfl rfl
            refine xc_s (rest := []) (x_invV (argsL := [.int (0 : Int32), .int (1 : Int32), .int (0 : Int32), .int (0 : Int32)]) hx hb hown (hts _ w_671) (hts _ w_673) (hts _ w_20) (x_code (hts _ w_674)) ⟨by decide, by decide⟩ hcB63 hoB63 hkB63 rfl rfl rfl d_MO_place_63) (c_MO_throwing h0 σ (0 : Int32) (1 : Int32) (0 : Int32) (0 : Int32)) (xs_cw h0 hW0 m_674) (hts _ w_38) ⟨rfl, rfl, Nat.le_of_ble_eq_true rfl, Nat.le_of_ble_eq_true rfl⟩ (hl.1.trans hml.symm) (by rw [hb]; exact d_MO_place_63) (Nat.le_of_ble_eq_true rfl) ⟨Nat.le_of_ble_eq_true rfl, Nat.le_of_ble_eq_true rfl⟩ hX hW0 hS (fun v63 σ63 H locs hM63 hX hS => ?_) (fun E x H1 locs1 hM => by cases hM)
            obtain ⟨ev63, es63⟩ := x_inl hM63
            subst es63
            subst ev63
            refine lv_if_eq (tgt := 70) hx hb d_MO_place_66 (by decide) (fun c66 => ?_) (fun c66 => ?_)
            · exact absurd c66 (thr_n2 (by decide))
            · subst hR
              refine W.widen (k := 0) (n := 0) (by decide) (by decide) ?_; exact xs_v hx hb hr hlocks hX hS d_MO_place_69
          · rw [if_pos c54] at hR
            refine lv_iconst (v := 1) hx hb d_MO_place_57 (by decide) ?_
            refine lv_goto (tgt := 62) hx hb d_MO_place_58 (by decide) ?_
            refine lv_iconst (v := 0) hx hb d_MO_place_62 (by decide) ?_
            obtain ⟨cB63, hcB63, hoB63, hkB63⟩ := xw_recv (r := 15) (i := 0) hK hX (by decide) rfl rfl
            refine xc_s (rest := []) (x_invV (argsL := [.int (0 : Int32), .int (1 : Int32), .int (1 : Int32), .int (0 : Int32)]) hx hb hown (hts _ w_671) (hts _ w_673) (hts _ w_20) (x_code (hts _ w_674)) ⟨by decide, by decide⟩ hcB63 hoB63 hkB63 rfl rfl rfl d_MO_place_63) (c_MO_throwing h0 σ (0 : Int32) (1 : Int32) (1 : Int32) (0 : Int32)) (xs_cw h0 hW0 m_674) (hts _ w_38) ⟨rfl, rfl, Nat.le_of_ble_eq_true rfl, Nat.le_of_ble_eq_true rfl⟩ (hl.1.trans hml.symm) (by rw [hb]; exact d_MO_place_63) (Nat.le_of_ble_eq_true rfl) ⟨Nat.le_of_ble_eq_true rfl, Nat.le_of_ble_eq_true rfl⟩ hX hW0 hS (fun v63 σ63 H locs hM63 hX hS => ?_) (fun E x H1 locs1 hM => by cases hM)
            obtain ⟨ev63, es63⟩ := x_inl hM63
            subst es63
            subst ev63
            refine lv_if_eq (tgt := 70) hx hb d_MO_place_66 (by decide) (fun c66 => ?_) (fun c66 => ?_)
            · exact absurd c66 (thr_n2 (by decide))
            · subst hR
              refine W.widen (k := 0) (n := 0) (by decide) (by decide) ?_; exact xs_v hx hb hr hlocks hX hS d_MO_place_69
    · rw [if_pos c12] at hR
      refine lv_iconst (v := 1) hx hb d_MO_place_15 (by decide) ?_
      refine lv_goto (tgt := 20) hx hb d_MO_place_16 (by decide) ?_
      refine lv_istore (lv' := [(4, .int (1 : Int32)), (0, .ref (xB s0 + XA 15 0)), (1, .int v), (2, .int cu), (3, .int mm)]) hx hb d_MO_place_20 hl (by decide) rfl (fun ls hl => ?_)
      refine lv_aload_n hx hb d_MO_place_22 rfl (lv_at hl 1 rfl) ?_
      refine lv_iload hx hb d_MO_place_23 (lv_at hl 0 rfl) ?_
      refine lv_iload_n hx hb d_MO_place_25 rfl (lv_at hl 4 rfl) ?_
      refine lv_sipush (v := -2000) hx hb d_MO_place_26 (by decide) ?_
      refine lv_sipush (v := 10000) hx hb d_MO_place_29 (by decide) ?_
      refine xc_f (rest := [.int (1 : Int32), .ref (xB s0 + XA 15 0)]) (x_invS (argsL := [.int mm, .int (-2000 : Int32), .int (10000 : Int32)]) hx hb hown (hts _ w_664) (hts _ w_665) (hts _ w_38) (x_code (hts _ w_666)) ⟨by decide, by decide⟩ rfl rfl rfl d_MO_place_32) (c_MO_in h0 σ mm (-2000 : Int32) (10000 : Int32)) (xs_cw h0 hW0 m_666) (hts _ w_38) ⟨rfl, rfl, Nat.le_of_ble_eq_true rfl, Nat.le_of_ble_eq_true rfl⟩ (hl.1.trans hml.symm) (by rw [hb]; exact d_MO_place_32) (Nat.le_of_ble_eq_true rfl) ⟨Nat.le_of_ble_eq_true rfl, Nat.le_of_ble_eq_true rfl⟩ hX ⟨hW0, xo_S hS⟩ ?_
      refine lv_if_ne (tgt := 42) hx hb d_MO_place_35 (by decide) (fun c35 => ?_) (fun c35 => ?_)
      · rw [if_neg c35] at hR
        refine lv_iconst (v := 0) hx hb d_MO_place_42 (by decide) ?_
        refine lv_iload hx hb d_MO_place_43 (lv_at hl 0 rfl) ?_
        refine lv_if_ne (tgt := 61) hx hb d_MO_place_45 (by decide) (fun c45 => ?_) (fun c45 => ?_)
        · refine lv_iconst (v := 0) hx hb d_MO_place_61 (by decide) ?_
          refine lv_iconst (v := 0) hx hb d_MO_place_62 (by decide) ?_
          obtain ⟨cB63, hcB63, hoB63, hkB63⟩ := xw_recv (r := 15) (i := 0) hK hX (by decide) rfl rfl
          refine xc_s (rest := []) (x_invV (argsL := [.int (1 : Int32), .int (0 : Int32), .int (0 : Int32), .int (0 : Int32)]) hx hb hown (hts _ w_671) (hts _ w_673) (hts _ w_20) (x_code (hts _ w_674)) ⟨by decide, by decide⟩ hcB63 hoB63 hkB63 rfl rfl rfl d_MO_place_63) (c_MO_throwing h0 σ (1 : Int32) (0 : Int32) (0 : Int32) (0 : Int32)) (xs_cw h0 hW0 m_674) (hts _ w_38) ⟨rfl, rfl, Nat.le_of_ble_eq_true rfl, Nat.le_of_ble_eq_true rfl⟩ (hl.1.trans hml.symm) (by rw [hb]; exact d_MO_place_63) (Nat.le_of_ble_eq_true rfl) ⟨Nat.le_of_ble_eq_true rfl, Nat.le_of_ble_eq_true rfl⟩ hX hW0 hS (fun v63 σ63 H locs hM63 hX hS => ?_) (fun E x H1 locs1 hM => by cases hM)
          obtain ⟨ev63, es63⟩ := x_inl hM63
          subst es63
          subst ev63
          refine lv_if_eq (tgt := 70) hx hb d_MO_place_66 (by decide) (fun c66 => ?_) (fun c66 => ?_)
          · exact absurd c66 (thr_n1 (by decide))
          · subst hR
            refine W.widen (k := 0) (n := 0) (by decide) (by decide) ?_; exact xs_v hx hb hr hlocks hX hS d_MO_place_69
        · exact absurd c45 (by decide)
      · rw [if_pos c35] at hR
        refine lv_iconst (v := 1) hx hb d_MO_place_38 (by decide) ?_
        refine lv_goto (tgt := 43) hx hb d_MO_place_39 (by decide) ?_
        refine lv_iload hx hb d_MO_place_43 (lv_at hl 0 rfl) ?_
        refine lv_if_ne (tgt := 61) hx hb d_MO_place_45 (by decide) (fun c45 => ?_) (fun c45 => ?_)
        · refine lv_iconst (v := 0) hx hb d_MO_place_61 (by decide) ?_
          refine lv_iconst (v := 0) hx hb d_MO_place_62 (by decide) ?_
          obtain ⟨cB63, hcB63, hoB63, hkB63⟩ := xw_recv (r := 15) (i := 0) hK hX (by decide) rfl rfl
          refine xc_s (rest := []) (x_invV (argsL := [.int (1 : Int32), .int (1 : Int32), .int (0 : Int32), .int (0 : Int32)]) hx hb hown (hts _ w_671) (hts _ w_673) (hts _ w_20) (x_code (hts _ w_674)) ⟨by decide, by decide⟩ hcB63 hoB63 hkB63 rfl rfl rfl d_MO_place_63) (c_MO_throwing h0 σ (1 : Int32) (1 : Int32) (0 : Int32) (0 : Int32)) (xs_cw h0 hW0 m_674) (hts _ w_38) ⟨rfl, rfl, Nat.le_of_ble_eq_true rfl, Nat.le_of_ble_eq_true rfl⟩ (hl.1.trans hml.symm) (by rw [hb]; exact d_MO_place_63) (Nat.le_of_ble_eq_true rfl) ⟨Nat.le_of_ble_eq_true rfl, Nat.le_of_ble_eq_true rfl⟩ hX hW0 hS (fun v63 σ63 H locs hM63 hX hS => ?_) (fun E x H1 locs1 hM => by cases hM)
          obtain ⟨ev63, es63⟩ := x_inl hM63
          subst es63
          subst ev63
          refine lv_if_eq (tgt := 70) hx hb d_MO_place_66 (by decide) (fun c66 => ?_) (fun c66 => ?_)
          · exact absurd c66 (thr_n1 (by decide))
          · subst hR
            refine W.widen (k := 0) (n := 0) (by decide) (by decide) ?_; exact xs_v hx hb hr hlocks hX hS d_MO_place_69
        · exact absurd c45 (by decide)

abbrev rm_MO_item : Room := { frames := 2, cells := 0, slots := 0, locals := 42 }
def S_MO_item (σ : XS) (it : Int32) (gr : Int32) (le : Int32) : Unit × XS := (if (S_MO_isItem σ it) = 0 then (if (S_MO_in σ gr (0 : Int32) (500000 : Int32)) = 0 then ((), (S_MO_throwing σ (1 : Int32) (1 : Int32) (0 : Int32) (0 : Int32)).2) else (if (S_MO_in σ le (0 : Int32) (100 : Int32)) = 0 then ((), (S_MO_throwing σ (1 : Int32) (1 : Int32) (0 : Int32) (0 : Int32)).2) else ((), (S_MO_throwing σ (1 : Int32) (0 : Int32) (0 : Int32) (0 : Int32)).2))) else (if (S_MO_in σ gr (0 : Int32) (500000 : Int32)) = 0 then (if gr = (σ.1 16 0 it.toNatClampNeg) then ((), (S_MO_throwing σ (0 : Int32) (1 : Int32) (0 : Int32) (0 : Int32)).2) else (if (S_MO_isSomewhere σ it) = 0 then ((), (S_MO_throwing σ (0 : Int32) (1 : Int32) (0 : Int32) (0 : Int32)).2) else ((), (S_MO_throwing σ (0 : Int32) (1 : Int32) (1 : Int32) (0 : Int32)).2))) else (if (S_MO_in σ le (0 : Int32) (100 : Int32)) = 0 then (if gr = (σ.1 16 0 it.toNatClampNeg) then ((), (S_MO_throwing σ (0 : Int32) (1 : Int32) (0 : Int32) (0 : Int32)).2) else (if (S_MO_isSomewhere σ it) = 0 then ((), (S_MO_throwing σ (0 : Int32) (1 : Int32) (0 : Int32) (0 : Int32)).2) else ((), (S_MO_throwing σ (0 : Int32) (1 : Int32) (1 : Int32) (0 : Int32)).2))) else (if gr = (σ.1 16 0 it.toNatClampNeg) then ((), (xuI (xuI (S_MO_throwing σ (0 : Int32) (0 : Int32) (0 : Int32) (0 : Int32)).2 16 0 it.toNatClampNeg gr) 17 0 it.toNatClampNeg le)) else (if (S_MO_isSomewhere σ it) = 0 then ((), (xuI (xuI (S_MO_throwing σ (0 : Int32) (0 : Int32) (0 : Int32) (0 : Int32)).2 16 0 it.toNatClampNeg gr) 17 0 it.toNatClampNeg le)) else ((), (S_MO_throwing σ (0 : Int32) (0 : Int32) (1 : Int32) (0 : Int32)).2))))))
set_option maxHeartbeats 4000000 in
set_option maxRecDepth 100000 in
theorem c_MO_item {l : Launch} {s0 : State} {A0 : Array Value} {D : va_G} {dA : Nat → ClassId} (h0 : XS0 l s0 A0 D dA) (σ : XS) (it : Int32) (gr : Int32) (le : Int32)  : XMet l y_MO_item [cw_MO_item] rm_MO_item (XP D dA s0 σ [.ref (xB s0 + XA 15 0), .int it, .int gr, .int le]) (XQs D dA s0 xv_v (.inl (S_MO_item σ it gr le))) 0 0 (xAm s0) := by
  refine XMet.ofW (cc := b_MO_item) (maxL := 6) (ret := none) (by decide) rfl ?_
  intro p e s m args below meth c s₁ Bd hml hvA
  obtain ⟨rfl, hX, hO⟩ := hvA
  have hx := Bd.exec
  have hb := Bd.bytes
  have hr := Bd.returns
  have hown : s.vm.findClass "LoadChecksModel" = some m.cls := findClass_of_methodNamed Bd.named
  have hlocks := Bd.notSynchronized
  have hnt : c.exceptionTable.isEmpty = true := Bd.noHandlers (atoms_spec (ws := [cw_MO_item]) Bd.pre _ List.mem_cons_self)
  have hW0 := hO.1
  have hts := xs_w (args := ([.ref (xB s0 + XA 15 0), .int it, .int gr, .int le] : List Value).toArray) h0 hW0
  have hK := xs_K h0 hW0
  have hS := xo_S0 hO
  have hl := lv_entry ([.ref (xB s0 + XA 15 0), .int it, .int gr, .int le]) (n := 6) (Nat.le_of_ble_eq_true rfl)
  rw [lg_entry_eq]
  generalize (lg_sl ([.ref (xB s0 + XA 15 0), .int it, .int gr, .int le]) ++ List.replicate (6 - (lg_sl ([.ref (xB s0 + XA 15 0), .int it, .int gr, .int le])).length) Slot.unset).toArray = ls at hl ⊢
  have hl : lv_has ls 6 [(0, .ref (xB s0 + XA 15 0)), (1, .int it), (2, .int gr), (3, .int le)] := hl
  generalize hR : S_MO_item σ it gr le = res
  unfold S_MO_item at hR
  refine lv_iload_n hx hb d_MO_item_0 rfl (lv_at hl 1 rfl) ?_
  refine xc_f (rest := []) (x_invS (argsL := [.int it]) hx hb hown (hts _ w_698) (hts _ w_699) (hts _ w_38) (x_code (hts _ w_700)) ⟨by decide, by decide⟩ rfl rfl rfl d_MO_item_1) (c_MO_isItem h0 σ it) (xs_cw h0 hW0 m_700) (hts _ w_38) ⟨rfl, rfl, Nat.le_of_ble_eq_true rfl, Nat.le_of_ble_eq_true rfl⟩ (hl.1.trans hml.symm) (by rw [hb]; exact d_MO_item_1) (Nat.le_of_ble_eq_true rfl) ⟨Nat.le_of_ble_eq_true rfl, Nat.le_of_ble_eq_true rfl⟩ hX ⟨hW0, xo_S hS⟩ ?_
  refine lv_if_ne (tgt := 11) hx hb d_MO_item_4 (by decide) (fun c4 => ?_) (fun c4 => ?_)
  · rw [if_neg c4] at hR
    have hi := m_item c4
    refine lv_iconst (v := 0) hx hb d_MO_item_11 (by decide) ?_
    refine lv_istore (lv' := [(4, .int (0 : Int32)), (0, .ref (xB s0 + XA 15 0)), (1, .int it), (2, .int gr), (3, .int le)]) hx hb d_MO_item_12 hl (by decide) rfl (fun ls hl => ?_)
    refine lv_iload_n hx hb d_MO_item_14 rfl (lv_at hl 3 rfl) ?_
    refine lv_iconst (v := 0) hx hb d_MO_item_15 (by decide) ?_
    refine lv_ldc (v := 500000) hx hb hown (hts _ w_701) d_MO_item_16 ?_
    refine xc_f (rest := []) (x_invS (argsL := [.int gr, .int (0 : Int32), .int (500000 : Int32)]) hx hb hown (hts _ w_664) (hts _ w_665) (hts _ w_38) (x_code (hts _ w_666)) ⟨by decide, by decide⟩ rfl rfl rfl d_MO_item_18) (c_MO_in h0 σ gr (0 : Int32) (500000 : Int32)) (xs_cw h0 hW0 m_666) (hts _ w_38) ⟨rfl, rfl, Nat.le_of_ble_eq_true rfl, Nat.le_of_ble_eq_true rfl⟩ (hl.1.trans hml.symm) (by rw [hb]; exact d_MO_item_18) (Nat.le_of_ble_eq_true rfl) ⟨Nat.le_of_ble_eq_true rfl, Nat.le_of_ble_eq_true rfl⟩ hX ⟨hW0, xo_S hS⟩ ?_
    refine lv_if_eq (tgt := 34) hx hb d_MO_item_21 (by decide) (fun c21 => ?_) (fun c21 => ?_)
    · rw [if_pos c21] at hR
      refine lv_iconst (v := 1) hx hb d_MO_item_34 (by decide) ?_
      refine lv_goto (tgt := 39) hx hb d_MO_item_35 (by decide) ?_
      refine lv_istore (lv' := [(5, .int (1 : Int32)), (4, .int (0 : Int32)), (0, .ref (xB s0 + XA 15 0)), (1, .int it), (2, .int gr), (3, .int le)]) hx hb d_MO_item_39 hl (by decide) rfl (fun ls hl => ?_)
      refine lv_aload_n hx hb d_MO_item_41 rfl (lv_at hl 2 rfl) ?_
      refine lv_iload hx hb d_MO_item_42 (lv_at hl 1 rfl) ?_
      refine lv_iload hx hb d_MO_item_44 (lv_at hl 0 rfl) ?_
      refine lv_iload hx hb d_MO_item_46 (lv_at hl 1 rfl) ?_
      refine lv_if_ne (tgt := 73) hx hb d_MO_item_48 (by decide) (fun c48 => ?_) (fun c48 => ?_)
      · exact absurd (by decide) c48
      · refine lv_iload_n hx hb d_MO_item_51 rfl (lv_at hl 4 rfl) ?_
        refine lv_aload_n hx hb d_MO_item_52 rfl (lv_at hl 2 rfl) ?_
        refine xw_get (C := R_MO) (T := F_MO) (N := 20) (r := 15) (i := 0) hx hb hts hi_MO hown hK hX (by decide) rfl rfl 3 (by decide) (hts _ w_598) rfl rfl d_MO_item_53 ?_
        refine lv_iload_n hx hb d_MO_item_56 rfl (lv_at hl 3 rfl) ?_
        refine xw_iald (r := 16) (i := 0) hx hb hK hX (by decide) 0 rfl rfl (j := it) hi d_MO_item_57 ?_
        refine lv_icmp_eq (tgt := 73) hx hb d_MO_item_58 (by decide) (fun c58 => ?_) (fun c58 => ?_)
        · rw [if_pos c58] at hR
          refine lv_iconst (v := 0) hx hb d_MO_item_73 (by decide) ?_
          refine lv_iconst (v := 0) hx hb d_MO_item_74 (by decide) ?_
          obtain ⟨cB75, hcB75, hoB75, hkB75⟩ := xw_recv (r := 15) (i := 0) hK hX (by decide) rfl rfl
          refine xc_s (rest := []) (x_invV (argsL := [.int (0 : Int32), .int (1 : Int32), .int (0 : Int32), .int (0 : Int32)]) hx hb hown (hts _ w_671) (hts _ w_673) (hts _ w_20) (x_code (hts _ w_674)) ⟨by decide, by decide⟩ hcB75 hoB75 hkB75 rfl rfl rfl d_MO_item_75) (c_MO_throwing h0 σ (0 : Int32) (1 : Int32) (0 : Int32) (0 : Int32)) (xs_cw h0 hW0 m_674) (hts _ w_38) ⟨rfl, rfl, Nat.le_of_ble_eq_true rfl, Nat.le_of_ble_eq_true rfl⟩ (hl.1.trans hml.symm) (by rw [hb]; exact d_MO_item_75) (Nat.le_of_ble_eq_true rfl) ⟨Nat.le_of_ble_eq_true rfl, Nat.le_of_ble_eq_true rfl⟩ hX hW0 hS (fun v75 σ75 H locs hM75 hX hS => ?_) (fun E x H1 locs1 hM => by cases hM)
          obtain ⟨ev75, es75⟩ := x_inl hM75
          subst es75
          subst ev75
          refine lv_if_eq (tgt := 82) hx hb d_MO_item_78 (by decide) (fun c78 => ?_) (fun c78 => ?_)
          · exact absurd c78 (thr_n2 (by decide))
          · subst hR
            refine W.widen (k := 0) (n := 0) (by decide) (by decide) ?_; exact xs_v hx hb hr hlocks hX hS d_MO_item_81
        · rw [if_neg c58] at hR
          refine lv_aload_n hx hb d_MO_item_61 rfl (lv_at hl 2 rfl) ?_
          refine lv_iload_n hx hb d_MO_item_62 rfl (lv_at hl 3 rfl) ?_
          obtain ⟨cB63, hcB63, hoB63, hkB63⟩ := xw_recv (r := 15) (i := 0) hK hX (by decide) rfl rfl
          refine xc_f (rest := [.int (1 : Int32), .int (0 : Int32), .ref (xB s0 + XA 15 0)]) (x_invV (argsL := [.int it]) hx hb hown (hts _ w_702) (hts _ w_704) (hts _ w_23) (x_code (hts _ w_705)) ⟨by decide, by decide⟩ hcB63 hoB63 hkB63 rfl rfl rfl d_MO_item_63) (c_MO_isSomewhere h0 σ it hi) (xs_cw h0 hW0 m_705) (hts _ w_38) ⟨rfl, rfl, Nat.le_of_ble_eq_true rfl, Nat.le_of_ble_eq_true rfl⟩ (hl.1.trans hml.symm) (by rw [hb]; exact d_MO_item_63) (Nat.le_of_ble_eq_true rfl) ⟨Nat.le_of_ble_eq_true rfl, Nat.le_of_ble_eq_true rfl⟩ hX ⟨hW0, xo_S hS⟩ ?_
          refine lv_if_eq (tgt := 73) hx hb d_MO_item_66 (by decide) (fun c66 => ?_) (fun c66 => ?_)
          · rw [if_pos c66] at hR
            refine lv_iconst (v := 0) hx hb d_MO_item_73 (by decide) ?_
            refine lv_iconst (v := 0) hx hb d_MO_item_74 (by decide) ?_
            obtain ⟨cB75, hcB75, hoB75, hkB75⟩ := xw_recv (r := 15) (i := 0) hK hX (by decide) rfl rfl
            refine xc_s (rest := []) (x_invV (argsL := [.int (0 : Int32), .int (1 : Int32), .int (0 : Int32), .int (0 : Int32)]) hx hb hown (hts _ w_671) (hts _ w_673) (hts _ w_20) (x_code (hts _ w_674)) ⟨by decide, by decide⟩ hcB75 hoB75 hkB75 rfl rfl rfl d_MO_item_75) (c_MO_throwing h0 σ (0 : Int32) (1 : Int32) (0 : Int32) (0 : Int32)) (xs_cw h0 hW0 m_674) (hts _ w_38) ⟨rfl, rfl, Nat.le_of_ble_eq_true rfl, Nat.le_of_ble_eq_true rfl⟩ (hl.1.trans hml.symm) (by rw [hb]; exact d_MO_item_75) (Nat.le_of_ble_eq_true rfl) ⟨Nat.le_of_ble_eq_true rfl, Nat.le_of_ble_eq_true rfl⟩ hX hW0 hS (fun v75 σ75 H locs hM75 hX hS => ?_) (fun E x H1 locs1 hM => by cases hM)
            obtain ⟨ev75, es75⟩ := x_inl hM75
            subst es75
            subst ev75
            refine lv_if_eq (tgt := 82) hx hb d_MO_item_78 (by decide) (fun c78 => ?_) (fun c78 => ?_)
            · exact absurd c78 (thr_n2 (by decide))
            · subst hR
              refine W.widen (k := 0) (n := 0) (by decide) (by decide) ?_; exact xs_v hx hb hr hlocks hX hS d_MO_item_81
          · rw [if_neg c66] at hR
            refine lv_iconst (v := 1) hx hb d_MO_item_69 (by decide) ?_
            refine lv_goto (tgt := 74) hx hb d_MO_item_70 (by decide) ?_
            refine lv_iconst (v := 0) hx hb d_MO_item_74 (by decide) ?_
            obtain ⟨cB75, hcB75, hoB75, hkB75⟩ := xw_recv (r := 15) (i := 0) hK hX (by decide) rfl rfl
            refine xc_s (rest := []) (x_invV (argsL := [.int (0 : Int32), .int (1 : Int32), .int (1 : Int32), .int (0 : Int32)]) hx hb hown (hts _ w_671) (hts _ w_673) (hts _ w_20) (x_code (hts _ w_674)) ⟨by decide, by decide⟩ hcB75 hoB75 hkB75 rfl rfl rfl d_MO_item_75) (c_MO_throwing h0 σ (0 : Int32) (1 : Int32) (1 : Int32) (0 : Int32)) (xs_cw h0 hW0 m_674) (hts _ w_38) ⟨rfl, rfl, Nat.le_of_ble_eq_true rfl, Nat.le_of_ble_eq_true rfl⟩ (hl.1.trans hml.symm) (by rw [hb]; exact d_MO_item_75) (Nat.le_of_ble_eq_true rfl) ⟨Nat.le_of_ble_eq_true rfl, Nat.le_of_ble_eq_true rfl⟩ hX hW0 hS (fun v75 σ75 H locs hM75 hX hS => ?_) (fun E x H1 locs1 hM => by cases hM)
            obtain ⟨ev75, es75⟩ := x_inl hM75
            subst es75
            subst ev75
            refine lv_if_eq (tgt := 82) hx hb d_MO_item_78 (by decide) (fun c78 => ?_) (fun c78 => ?_)
            · exact absurd c78 (thr_n2 (by decide))
            · subst hR
              refine W.widen (k := 0) (n := 0) (by decide) (by decide) ?_; exact xs_v hx hb hr hlocks hX hS d_MO_item_81
    · rw [if_neg c21] at hR
      refine lv_iload_n hx hb d_MO_item_24 rfl (lv_at hl 4 rfl) ?_
      refine lv_iconst (v := 0) hx hb d_MO_item_25 (by decide) ?_
      refine lv_bipush (v := 100) hx hb d_MO_item_26 (by decide) ?_
      refine xc_f (rest := []) (x_invS (argsL := [.int le, .int (0 : Int32), .int (100 : Int32)]) hx hb hown (hts _ w_664) (hts _ w_665) (hts _ w_38) (x_code (hts _ w_666)) ⟨by decide, by decide⟩ rfl rfl rfl d_MO_item_28) (c_MO_in h0 σ le (0 : Int32) (100 : Int32)) (xs_cw h0 hW0 m_666) (hts _ w_38) ⟨rfl, rfl, Nat.le_of_ble_eq_true rfl, Nat.le_of_ble_eq_true rfl⟩ (hl.1.trans hml.symm) (by rw [hb]; exact d_MO_item_28) (Nat.le_of_ble_eq_true rfl) ⟨Nat.le_of_ble_eq_true rfl, Nat.le_of_ble_eq_true rfl⟩ hX ⟨hW0, xo_S hS⟩ ?_
      refine lv_if_ne (tgt := 38) hx hb d_MO_item_31 (by decide) (fun c31 => ?_) (fun c31 => ?_)
      · rw [if_neg c31] at hR
        refine lv_iconst (v := 0) hx hb d_MO_item_38 (by decide) ?_
        refine lv_istore (lv' := [(5, .int (0 : Int32)), (4, .int (0 : Int32)), (0, .ref (xB s0 + XA 15 0)), (1, .int it), (2, .int gr), (3, .int le)]) hx hb d_MO_item_39 hl (by decide) rfl (fun ls hl => ?_)
        refine lv_aload_n hx hb d_MO_item_41 rfl (lv_at hl 2 rfl) ?_
        refine lv_iload hx hb d_MO_item_42 (lv_at hl 1 rfl) ?_
        refine lv_iload hx hb d_MO_item_44 (lv_at hl 0 rfl) ?_
        refine lv_iload hx hb d_MO_item_46 (lv_at hl 1 rfl) ?_
        refine lv_if_ne (tgt := 73) hx hb d_MO_item_48 (by decide) (fun c48 => ?_) (fun c48 => ?_)
        · exact absurd (by decide) c48
        · refine lv_iload_n hx hb d_MO_item_51 rfl (lv_at hl 4 rfl) ?_
          refine lv_aload_n hx hb d_MO_item_52 rfl (lv_at hl 2 rfl) ?_
          refine xw_get (C := R_MO) (T := F_MO) (N := 20) (r := 15) (i := 0) hx hb hts hi_MO hown hK hX (by decide) rfl rfl 3 (by decide) (hts _ w_598) rfl rfl d_MO_item_53 ?_
          refine lv_iload_n hx hb d_MO_item_56 rfl (lv_at hl 3 rfl) ?_
          refine xw_iald (r := 16) (i := 0) hx hb hK hX (by decide) 0 rfl rfl (j := it) hi d_MO_item_57 ?_
          refine lv_icmp_eq (tgt := 73) hx hb d_MO_item_58 (by decide) (fun c58 => ?_) (fun c58 => ?_)
          · rw [if_pos c58] at hR
            refine lv_iconst (v := 0) hx hb d_MO_item_73 (by decide) ?_
            refine lv_iconst (v := 0) hx hb d_MO_item_74 (by decide) ?_
            obtain ⟨cB75, hcB75, hoB75, hkB75⟩ := xw_recv (r := 15) (i := 0) hK hX (by decide) rfl rfl
            refine xc_s (rest := []) (x_invV (argsL := [.int (0 : Int32), .int (0 : Int32), .int (0 : Int32), .int (0 : Int32)]) hx hb hown (hts _ w_671) (hts _ w_673) (hts _ w_20) (x_code (hts _ w_674)) ⟨by decide, by decide⟩ hcB75 hoB75 hkB75 rfl rfl rfl d_MO_item_75) (c_MO_throwing h0 σ (0 : Int32) (0 : Int32) (0 : Int32) (0 : Int32)) (xs_cw h0 hW0 m_674) (hts _ w_38) ⟨rfl, rfl, Nat.le_of_ble_eq_true rfl, Nat.le_of_ble_eq_true rfl⟩ (hl.1.trans hml.symm) (by rw [hb]; exact d_MO_item_75) (Nat.le_of_ble_eq_true rfl) ⟨Nat.le_of_ble_eq_true rfl, Nat.le_of_ble_eq_true rfl⟩ hX hW0 hS (fun v75 σ75 H locs hM75 hX hS => ?_) (fun E x H1 locs1 hM => by cases hM)
            obtain ⟨ev75, es75⟩ := x_inl hM75
            subst es75
            subst ev75
            refine lv_if_eq (tgt := 82) hx hb d_MO_item_78 (by decide) (fun c78 => ?_) (fun c78 => ?_)
            · refine lv_aload_n hx hb d_MO_item_82 rfl (lv_at hl 2 rfl) ?_
              refine xw_get (C := R_MO) (T := F_MO) (N := 20) (r := 15) (i := 0) hx hb hts hi_MO hown hK hX (by decide) rfl rfl 3 (by decide) (hts _ w_598) rfl rfl d_MO_item_83 ?_
              refine lv_iload_n hx hb d_MO_item_86 rfl (lv_at hl 3 rfl) ?_
              refine lv_iload_n hx hb d_MO_item_87 rfl (lv_at hl 4 rfl) ?_
              refine xw_iast (r := 16) (i := 0) (ent' := XE dA (xB s0) (xuI (S_MO_throwing σ (0 : Int32) (0 : Int32) (0 : Int32) (0 : Int32)).2 16 0 it.toNatClampNeg gr)) hx hb hK xInj hX hS (xA_in _ _ _) (by decide) 0 rfl rfl (j := it) hi ((xe_uI dA (xB s0) ((S_MO_throwing σ (0 : Int32) (0 : Int32) (0 : Int32) (0 : Int32)).2) 16 0 it.toNatClampNeg gr).trans rfl) (xe_oI dA (xB s0) ((S_MO_throwing σ (0 : Int32) (0 : Int32) (0 : Int32) (0 : Int32)).2) 16 0 it.toNatClampNeg gr) d_MO_item_88 (fun H locs hX hS => ?_)
              refine lv_aload_n hx hb d_MO_item_89 rfl (lv_at hl 2 rfl) ?_
              refine xw_get (C := R_MO) (T := F_MO) (N := 20) (r := 15) (i := 0) hx hb hts hi_MO hown hK hX (by decide) rfl rfl 4 (by decide) (hts _ w_599) rfl rfl d_MO_item_90 ?_
              refine lv_iload_n hx hb d_MO_item_93 rfl (lv_at hl 3 rfl) ?_
              refine lv_iload_n hx hb d_MO_item_94 rfl (lv_at hl 5 rfl) ?_
              refine xw_iast (r := 17) (i := 0) (ent' := XE dA (xB s0) (xuI (xuI (S_MO_throwing σ (0 : Int32) (0 : Int32) (0 : Int32) (0 : Int32)).2 16 0 it.toNatClampNeg gr) 17 0 it.toNatClampNeg le)) hx hb hK xInj hX hS (xA_in _ _ _) (by decide) 0 rfl rfl (j := it) hi ((xe_uI dA (xB s0) (xuI (S_MO_throwing σ (0 : Int32) (0 : Int32) (0 : Int32) (0 : Int32)).2 16 0 it.toNatClampNeg gr) 17 0 it.toNatClampNeg le).trans rfl) (xe_oI dA (xB s0) (xuI (S_MO_throwing σ (0 : Int32) (0 : Int32) (0 : Int32) (0 : Int32)).2 16 0 it.toNatClampNeg gr) 17 0 it.toNatClampNeg le) d_MO_item_95 (fun H locs hX hS => ?_)
              subst hR
              refine W.widen (k := 0) (n := 0) (by decide) (by decide) ?_; exact xs_v hx hb hr hlocks hX hS d_MO_item_96
            · exact absurd thr_z c78
          · rw [if_neg c58] at hR
            refine lv_aload_n hx hb d_MO_item_61 rfl (lv_at hl 2 rfl) ?_
            refine lv_iload_n hx hb d_MO_item_62 rfl (lv_at hl 3 rfl) ?_
            obtain ⟨cB63, hcB63, hoB63, hkB63⟩ := xw_recv (r := 15) (i := 0) hK hX (by decide) rfl rfl
            refine xc_f (rest := [.int (0 : Int32), .int (0 : Int32), .ref (xB s0 + XA 15 0)]) (x_invV (argsL := [.int it]) hx hb hown (hts _ w_702) (hts _ w_704) (hts _ w_23) (x_code (hts _ w_705)) ⟨by decide, by decide⟩ hcB63 hoB63 hkB63 rfl rfl rfl d_MO_item_63) (c_MO_isSomewhere h0 σ it hi) (xs_cw h0 hW0 m_705) (hts _ w_38) ⟨rfl, rfl, Nat.le_of_ble_eq_true rfl, Nat.le_of_ble_eq_true rfl⟩ (hl.1.trans hml.symm) (by rw [hb]; exact d_MO_item_63) (Nat.le_of_ble_eq_true rfl) ⟨Nat.le_of_ble_eq_true rfl, Nat.le_of_ble_eq_true rfl⟩ hX ⟨hW0, xo_S hS⟩ ?_
            refine lv_if_eq (tgt := 73) hx hb d_MO_item_66 (by decide) (fun c66 => ?_) (fun c66 => ?_)
            · rw [if_pos c66] at hR
              refine lv_iconst (v := 0) hx hb d_MO_item_73 (by decide) ?_
              refine lv_iconst (v := 0) hx hb d_MO_item_74 (by decide) ?_
              obtain ⟨cB75, hcB75, hoB75, hkB75⟩ := xw_recv (r := 15) (i := 0) hK hX (by decide) rfl rfl
              refine xc_s (rest := []) (x_invV (argsL := [.int (0 : Int32), .int (0 : Int32), .int (0 : Int32), .int (0 : Int32)]) hx hb hown (hts _ w_671) (hts _ w_673) (hts _ w_20) (x_code (hts _ w_674)) ⟨by decide, by decide⟩ hcB75 hoB75 hkB75 rfl rfl rfl d_MO_item_75) (c_MO_throwing h0 σ (0 : Int32) (0 : Int32) (0 : Int32) (0 : Int32)) (xs_cw h0 hW0 m_674) (hts _ w_38) ⟨rfl, rfl, Nat.le_of_ble_eq_true rfl, Nat.le_of_ble_eq_true rfl⟩ (hl.1.trans hml.symm) (by rw [hb]; exact d_MO_item_75) (Nat.le_of_ble_eq_true rfl) ⟨Nat.le_of_ble_eq_true rfl, Nat.le_of_ble_eq_true rfl⟩ hX hW0 hS (fun v75 σ75 H locs hM75 hX hS => ?_) (fun E x H1 locs1 hM => by cases hM)
              obtain ⟨ev75, es75⟩ := x_inl hM75
              subst es75
              subst ev75
              refine lv_if_eq (tgt := 82) hx hb d_MO_item_78 (by decide) (fun c78 => ?_) (fun c78 => ?_)
              · refine lv_aload_n hx hb d_MO_item_82 rfl (lv_at hl 2 rfl) ?_
                refine xw_get (C := R_MO) (T := F_MO) (N := 20) (r := 15) (i := 0) hx hb hts hi_MO hown hK hX (by decide) rfl rfl 3 (by decide) (hts _ w_598) rfl rfl d_MO_item_83 ?_
                refine lv_iload_n hx hb d_MO_item_86 rfl (lv_at hl 3 rfl) ?_
                refine lv_iload_n hx hb d_MO_item_87 rfl (lv_at hl 4 rfl) ?_
                refine xw_iast (r := 16) (i := 0) (ent' := XE dA (xB s0) (xuI (S_MO_throwing σ (0 : Int32) (0 : Int32) (0 : Int32) (0 : Int32)).2 16 0 it.toNatClampNeg gr)) hx hb hK xInj hX hS (xA_in _ _ _) (by decide) 0 rfl rfl (j := it) hi ((xe_uI dA (xB s0) ((S_MO_throwing σ (0 : Int32) (0 : Int32) (0 : Int32) (0 : Int32)).2) 16 0 it.toNatClampNeg gr).trans rfl) (xe_oI dA (xB s0) ((S_MO_throwing σ (0 : Int32) (0 : Int32) (0 : Int32) (0 : Int32)).2) 16 0 it.toNatClampNeg gr) d_MO_item_88 (fun H locs hX hS => ?_)
                refine lv_aload_n hx hb d_MO_item_89 rfl (lv_at hl 2 rfl) ?_
                refine xw_get (C := R_MO) (T := F_MO) (N := 20) (r := 15) (i := 0) hx hb hts hi_MO hown hK hX (by decide) rfl rfl 4 (by decide) (hts _ w_599) rfl rfl d_MO_item_90 ?_
                refine lv_iload_n hx hb d_MO_item_93 rfl (lv_at hl 3 rfl) ?_
                refine lv_iload_n hx hb d_MO_item_94 rfl (lv_at hl 5 rfl) ?_
                refine xw_iast (r := 17) (i := 0) (ent' := XE dA (xB s0) (xuI (xuI (S_MO_throwing σ (0 : Int32) (0 : Int32) (0 : Int32) (0 : Int32)).2 16 0 it.toNatClampNeg gr) 17 0 it.toNatClampNeg le)) hx hb hK xInj hX hS (xA_in _ _ _) (by decide) 0 rfl rfl (j := it) hi ((xe_uI dA (xB s0) (xuI (S_MO_throwing σ (0 : Int32) (0 : Int32) (0 : Int32) (0 : Int32)).2 16 0 it.toNatClampNeg gr) 17 0 it.toNatClampNeg le).trans rfl) (xe_oI dA (xB s0) (xuI (S_MO_throwing σ (0 : Int32) (0 : Int32) (0 : Int32) (0 : Int32)).2 16 0 it.toNatClampNeg gr) 17 0 it.toNatClampNeg le) d_MO_item_95 (fun H locs hX hS => ?_)
                subst hR
                refine W.widen (k := 0) (n := 0) (by decide) (by decide) ?_; exact xs_v hx hb hr hlocks hX hS d_MO_item_96
              · exact absurd thr_z c78
            · rw [if_neg c66] at hR
              refine lv_iconst (v := 1) hx hb d_MO_item_69 (by decide) ?_
              refine lv_goto (tgt := 74) hx hb d_MO_item_70 (by decide) ?_
              refine lv_iconst (v := 0) hx hb d_MO_item_74 (by decide) ?_
              obtain ⟨cB75, hcB75, hoB75, hkB75⟩ := xw_recv (r := 15) (i := 0) hK hX (by decide) rfl rfl
              refine xc_s (rest := []) (x_invV (argsL := [.int (0 : Int32), .int (0 : Int32), .int (1 : Int32), .int (0 : Int32)]) hx hb hown (hts _ w_671) (hts _ w_673) (hts _ w_20) (x_code (hts _ w_674)) ⟨by decide, by decide⟩ hcB75 hoB75 hkB75 rfl rfl rfl d_MO_item_75) (c_MO_throwing h0 σ (0 : Int32) (0 : Int32) (1 : Int32) (0 : Int32)) (xs_cw h0 hW0 m_674) (hts _ w_38) ⟨rfl, rfl, Nat.le_of_ble_eq_true rfl, Nat.le_of_ble_eq_true rfl⟩ (hl.1.trans hml.symm) (by rw [hb]; exact d_MO_item_75) (Nat.le_of_ble_eq_true rfl) ⟨Nat.le_of_ble_eq_true rfl, Nat.le_of_ble_eq_true rfl⟩ hX hW0 hS (fun v75 σ75 H locs hM75 hX hS => ?_) (fun E x H1 locs1 hM => by cases hM)
              obtain ⟨ev75, es75⟩ := x_inl hM75
              subst es75
              subst ev75
              refine lv_if_eq (tgt := 82) hx hb d_MO_item_78 (by decide) (fun c78 => ?_) (fun c78 => ?_)
              · exact absurd c78 (thr_n3 (by decide))
              · subst hR
                refine W.widen (k := 0) (n := 0) (by decide) (by decide) ?_; exact xs_v hx hb hr hlocks hX hS d_MO_item_81
      · rw [if_pos c31] at hR
        refine lv_iconst (v := 1) hx hb d_MO_item_34 (by decide) ?_
        refine lv_goto (tgt := 39) hx hb d_MO_item_35 (by decide) ?_
        refine lv_istore (lv' := [(5, .int (1 : Int32)), (4, .int (0 : Int32)), (0, .ref (xB s0 + XA 15 0)), (1, .int it), (2, .int gr), (3, .int le)]) hx hb d_MO_item_39 hl (by decide) rfl (fun ls hl => ?_)
        refine lv_aload_n hx hb d_MO_item_41 rfl (lv_at hl 2 rfl) ?_
        refine lv_iload hx hb d_MO_item_42 (lv_at hl 1 rfl) ?_
        refine lv_iload hx hb d_MO_item_44 (lv_at hl 0 rfl) ?_
        refine lv_iload hx hb d_MO_item_46 (lv_at hl 1 rfl) ?_
        refine lv_if_ne (tgt := 73) hx hb d_MO_item_48 (by decide) (fun c48 => ?_) (fun c48 => ?_)
        · exact absurd (by decide) c48
        · refine lv_iload_n hx hb d_MO_item_51 rfl (lv_at hl 4 rfl) ?_
          refine lv_aload_n hx hb d_MO_item_52 rfl (lv_at hl 2 rfl) ?_
          refine xw_get (C := R_MO) (T := F_MO) (N := 20) (r := 15) (i := 0) hx hb hts hi_MO hown hK hX (by decide) rfl rfl 3 (by decide) (hts _ w_598) rfl rfl d_MO_item_53 ?_
          refine lv_iload_n hx hb d_MO_item_56 rfl (lv_at hl 3 rfl) ?_
          refine xw_iald (r := 16) (i := 0) hx hb hK hX (by decide) 0 rfl rfl (j := it) hi d_MO_item_57 ?_
          refine lv_icmp_eq (tgt := 73) hx hb d_MO_item_58 (by decide) (fun c58 => ?_) (fun c58 => ?_)
          · rw [if_pos c58] at hR
            refine lv_iconst (v := 0) hx hb d_MO_item_73 (by decide) ?_
            refine lv_iconst (v := 0) hx hb d_MO_item_74 (by decide) ?_
            obtain ⟨cB75, hcB75, hoB75, hkB75⟩ := xw_recv (r := 15) (i := 0) hK hX (by decide) rfl rfl
            refine xc_s (rest := []) (x_invV (argsL := [.int (0 : Int32), .int (1 : Int32), .int (0 : Int32), .int (0 : Int32)]) hx hb hown (hts _ w_671) (hts _ w_673) (hts _ w_20) (x_code (hts _ w_674)) ⟨by decide, by decide⟩ hcB75 hoB75 hkB75 rfl rfl rfl d_MO_item_75) (c_MO_throwing h0 σ (0 : Int32) (1 : Int32) (0 : Int32) (0 : Int32)) (xs_cw h0 hW0 m_674) (hts _ w_38) ⟨rfl, rfl, Nat.le_of_ble_eq_true rfl, Nat.le_of_ble_eq_true rfl⟩ (hl.1.trans hml.symm) (by rw [hb]; exact d_MO_item_75) (Nat.le_of_ble_eq_true rfl) ⟨Nat.le_of_ble_eq_true rfl, Nat.le_of_ble_eq_true rfl⟩ hX hW0 hS (fun v75 σ75 H locs hM75 hX hS => ?_) (fun E x H1 locs1 hM => by cases hM)
            obtain ⟨ev75, es75⟩ := x_inl hM75
            subst es75
            subst ev75
            refine lv_if_eq (tgt := 82) hx hb d_MO_item_78 (by decide) (fun c78 => ?_) (fun c78 => ?_)
            · exact absurd c78 (thr_n2 (by decide))
            · subst hR
              refine W.widen (k := 0) (n := 0) (by decide) (by decide) ?_; exact xs_v hx hb hr hlocks hX hS d_MO_item_81
          · rw [if_neg c58] at hR
            refine lv_aload_n hx hb d_MO_item_61 rfl (lv_at hl 2 rfl) ?_
            refine lv_iload_n hx hb d_MO_item_62 rfl (lv_at hl 3 rfl) ?_
            obtain ⟨cB63, hcB63, hoB63, hkB63⟩ := xw_recv (r := 15) (i := 0) hK hX (by decide) rfl rfl
            refine xc_f (rest := [.int (1 : Int32), .int (0 : Int32), .ref (xB s0 + XA 15 0)]) (x_invV (argsL := [.int it]) hx hb hown (hts _ w_702) (hts _ w_704) (hts _ w_23) (x_code (hts _ w_705)) ⟨by decide, by decide⟩ hcB63 hoB63 hkB63 rfl rfl rfl d_MO_item_63) (c_MO_isSomewhere h0 σ it hi) (xs_cw h0 hW0 m_705) (hts _ w_38) ⟨rfl, rfl, Nat.le_of_ble_eq_true rfl, Nat.le_of_ble_eq_true rfl⟩ (hl.1.trans hml.symm) (by rw [hb]; exact d_MO_item_63) (Nat.le_of_ble_eq_true rfl) ⟨Nat.le_of_ble_eq_true rfl, Nat.le_of_ble_eq_true rfl⟩ hX ⟨hW0, xo_S hS⟩ ?_
            refine lv_if_eq (tgt := 73) hx hb d_MO_item_66 (by decide) (fun c66 => ?_) (fun c66 => ?_)
            · rw [if_pos c66] at hR
              refine lv_iconst (v := 0) hx hb d_MO_item_73 (by decide) ?_
              refine lv_iconst (v := 0) hx hb d_MO_item_74 (by decide) ?_
              obtain ⟨cB75, hcB75, hoB75, hkB75⟩ := xw_recv (r := 15) (i := 0) hK hX (by decide) rfl rfl
              refine xc_s (rest := []) (x_invV (argsL := [.int (0 : Int32), .int (1 : Int32), .int (0 : Int32), .int (0 : Int32)]) hx hb hown (hts _ w_671) (hts _ w_673) (hts _ w_20) (x_code (hts _ w_674)) ⟨by decide, by decide⟩ hcB75 hoB75 hkB75 rfl rfl rfl d_MO_item_75) (c_MO_throwing h0 σ (0 : Int32) (1 : Int32) (0 : Int32) (0 : Int32)) (xs_cw h0 hW0 m_674) (hts _ w_38) ⟨rfl, rfl, Nat.le_of_ble_eq_true rfl, Nat.le_of_ble_eq_true rfl⟩ (hl.1.trans hml.symm) (by rw [hb]; exact d_MO_item_75) (Nat.le_of_ble_eq_true rfl) ⟨Nat.le_of_ble_eq_true rfl, Nat.le_of_ble_eq_true rfl⟩ hX hW0 hS (fun v75 σ75 H locs hM75 hX hS => ?_) (fun E x H1 locs1 hM => by cases hM)
              obtain ⟨ev75, es75⟩ := x_inl hM75
              subst es75
              subst ev75
              refine lv_if_eq (tgt := 82) hx hb d_MO_item_78 (by decide) (fun c78 => ?_) (fun c78 => ?_)
              · exact absurd c78 (thr_n2 (by decide))
              · subst hR
                refine W.widen (k := 0) (n := 0) (by decide) (by decide) ?_; exact xs_v hx hb hr hlocks hX hS d_MO_item_81
            · rw [if_neg c66] at hR
              refine lv_iconst (v := 1) hx hb d_MO_item_69 (by decide) ?_
              refine lv_goto (tgt := 74) hx hb d_MO_item_70 (by decide) ?_
              refine lv_iconst (v := 0) hx hb d_MO_item_74 (by decide) ?_
              obtain ⟨cB75, hcB75, hoB75, hkB75⟩ := xw_recv (r := 15) (i := 0) hK hX (by decide) rfl rfl
              refine xc_s (rest := []) (x_invV (argsL := [.int (0 : Int32), .int (1 : Int32), .int (1 : Int32), .int (0 : Int32)]) hx hb hown (hts _ w_671) (hts _ w_673) (hts _ w_20) (x_code (hts _ w_674)) ⟨by decide, by decide⟩ hcB75 hoB75 hkB75 rfl rfl rfl d_MO_item_75) (c_MO_throwing h0 σ (0 : Int32) (1 : Int32) (1 : Int32) (0 : Int32)) (xs_cw h0 hW0 m_674) (hts _ w_38) ⟨rfl, rfl, Nat.le_of_ble_eq_true rfl, Nat.le_of_ble_eq_true rfl⟩ (hl.1.trans hml.symm) (by rw [hb]; exact d_MO_item_75) (Nat.le_of_ble_eq_true rfl) ⟨Nat.le_of_ble_eq_true rfl, Nat.le_of_ble_eq_true rfl⟩ hX hW0 hS (fun v75 σ75 H locs hM75 hX hS => ?_) (fun E x H1 locs1 hM => by cases hM)
              obtain ⟨ev75, es75⟩ := x_inl hM75
              subst es75
              subst ev75
              refine lv_if_eq (tgt := 82) hx hb d_MO_item_78 (by decide) (fun c78 => ?_) (fun c78 => ?_)
              · exact absurd c78 (thr_n2 (by decide))
              · subst hR
                refine W.widen (k := 0) (n := 0) (by decide) (by decide) ?_; exact xs_v hx hb hr hlocks hX hS d_MO_item_81
  · rw [if_pos c4] at hR
    refine lv_iconst (v := 1) hx hb d_MO_item_7 (by decide) ?_
    refine lv_goto (tgt := 12) hx hb d_MO_item_8 (by decide) ?_
    refine lv_istore (lv' := [(4, .int (1 : Int32)), (0, .ref (xB s0 + XA 15 0)), (1, .int it), (2, .int gr), (3, .int le)]) hx hb d_MO_item_12 hl (by decide) rfl (fun ls hl => ?_)
    refine lv_iload_n hx hb d_MO_item_14 rfl (lv_at hl 3 rfl) ?_
    refine lv_iconst (v := 0) hx hb d_MO_item_15 (by decide) ?_
    refine lv_ldc (v := 500000) hx hb hown (hts _ w_701) d_MO_item_16 ?_
    refine xc_f (rest := []) (x_invS (argsL := [.int gr, .int (0 : Int32), .int (500000 : Int32)]) hx hb hown (hts _ w_664) (hts _ w_665) (hts _ w_38) (x_code (hts _ w_666)) ⟨by decide, by decide⟩ rfl rfl rfl d_MO_item_18) (c_MO_in h0 σ gr (0 : Int32) (500000 : Int32)) (xs_cw h0 hW0 m_666) (hts _ w_38) ⟨rfl, rfl, Nat.le_of_ble_eq_true rfl, Nat.le_of_ble_eq_true rfl⟩ (hl.1.trans hml.symm) (by rw [hb]; exact d_MO_item_18) (Nat.le_of_ble_eq_true rfl) ⟨Nat.le_of_ble_eq_true rfl, Nat.le_of_ble_eq_true rfl⟩ hX ⟨hW0, xo_S hS⟩ ?_
    refine lv_if_eq (tgt := 34) hx hb d_MO_item_21 (by decide) (fun c21 => ?_) (fun c21 => ?_)
    · rw [if_pos c21] at hR
      refine lv_iconst (v := 1) hx hb d_MO_item_34 (by decide) ?_
      refine lv_goto (tgt := 39) hx hb d_MO_item_35 (by decide) ?_
      refine lv_istore (lv' := [(5, .int (1 : Int32)), (4, .int (1 : Int32)), (0, .ref (xB s0 + XA 15 0)), (1, .int it), (2, .int gr), (3, .int le)]) hx hb d_MO_item_39 hl (by decide) rfl (fun ls hl => ?_)
      refine lv_aload_n hx hb d_MO_item_41 rfl (lv_at hl 2 rfl) ?_
      refine lv_iload hx hb d_MO_item_42 (lv_at hl 1 rfl) ?_
      refine lv_iload hx hb d_MO_item_44 (lv_at hl 0 rfl) ?_
      refine lv_iload hx hb d_MO_item_46 (lv_at hl 1 rfl) ?_
      refine lv_if_ne (tgt := 73) hx hb d_MO_item_48 (by decide) (fun c48 => ?_) (fun c48 => ?_)
      · refine lv_iconst (v := 0) hx hb d_MO_item_73 (by decide) ?_
        refine lv_iconst (v := 0) hx hb d_MO_item_74 (by decide) ?_
        obtain ⟨cB75, hcB75, hoB75, hkB75⟩ := xw_recv (r := 15) (i := 0) hK hX (by decide) rfl rfl
        refine xc_s (rest := []) (x_invV (argsL := [.int (1 : Int32), .int (1 : Int32), .int (0 : Int32), .int (0 : Int32)]) hx hb hown (hts _ w_671) (hts _ w_673) (hts _ w_20) (x_code (hts _ w_674)) ⟨by decide, by decide⟩ hcB75 hoB75 hkB75 rfl rfl rfl d_MO_item_75) (c_MO_throwing h0 σ (1 : Int32) (1 : Int32) (0 : Int32) (0 : Int32)) (xs_cw h0 hW0 m_674) (hts _ w_38) ⟨rfl, rfl, Nat.le_of_ble_eq_true rfl, Nat.le_of_ble_eq_true rfl⟩ (hl.1.trans hml.symm) (by rw [hb]; exact d_MO_item_75) (Nat.le_of_ble_eq_true rfl) ⟨Nat.le_of_ble_eq_true rfl, Nat.le_of_ble_eq_true rfl⟩ hX hW0 hS (fun v75 σ75 H locs hM75 hX hS => ?_) (fun E x H1 locs1 hM => by cases hM)
        obtain ⟨ev75, es75⟩ := x_inl hM75
        subst es75
        subst ev75
        refine lv_if_eq (tgt := 82) hx hb d_MO_item_78 (by decide) (fun c78 => ?_) (fun c78 => ?_)
        · exact absurd c78 (thr_n1 (by decide))
        · subst hR
          refine W.widen (k := 0) (n := 0) (by decide) (by decide) ?_; exact xs_v hx hb hr hlocks hX hS d_MO_item_81
      · exact absurd c48 (by decide)
    · rw [if_neg c21] at hR
      refine lv_iload_n hx hb d_MO_item_24 rfl (lv_at hl 4 rfl) ?_
      refine lv_iconst (v := 0) hx hb d_MO_item_25 (by decide) ?_
      refine lv_bipush (v := 100) hx hb d_MO_item_26 (by decide) ?_
      refine xc_f (rest := []) (x_invS (argsL := [.int le, .int (0 : Int32), .int (100 : Int32)]) hx hb hown (hts _ w_664) (hts _ w_665) (hts _ w_38) (x_code (hts _ w_666)) ⟨by decide, by decide⟩ rfl rfl rfl d_MO_item_28) (c_MO_in h0 σ le (0 : Int32) (100 : Int32)) (xs_cw h0 hW0 m_666) (hts _ w_38) ⟨rfl, rfl, Nat.le_of_ble_eq_true rfl, Nat.le_of_ble_eq_true rfl⟩ (hl.1.trans hml.symm) (by rw [hb]; exact d_MO_item_28) (Nat.le_of_ble_eq_true rfl) ⟨Nat.le_of_ble_eq_true rfl, Nat.le_of_ble_eq_true rfl⟩ hX ⟨hW0, xo_S hS⟩ ?_
      refine lv_if_ne (tgt := 38) hx hb d_MO_item_31 (by decide) (fun c31 => ?_) (fun c31 => ?_)
      · rw [if_neg c31] at hR
        refine lv_iconst (v := 0) hx hb d_MO_item_38 (by decide) ?_
        refine lv_istore (lv' := [(5, .int (0 : Int32)), (4, .int (1 : Int32)), (0, .ref (xB s0 + XA 15 0)), (1, .int it), (2, .int gr), (3, .int le)]) hx hb d_MO_item_39 hl (by decide) rfl (fun ls hl => ?_)
        refine lv_aload_n hx hb d_MO_item_41 rfl (lv_at hl 2 rfl) ?_
        refine lv_iload hx hb d_MO_item_42 (lv_at hl 1 rfl) ?_
        refine lv_iload hx hb d_MO_item_44 (lv_at hl 0 rfl) ?_
        refine lv_iload hx hb d_MO_item_46 (lv_at hl 1 rfl) ?_
        refine lv_if_ne (tgt := 73) hx hb d_MO_item_48 (by decide) (fun c48 => ?_) (fun c48 => ?_)
        · refine lv_iconst (v := 0) hx hb d_MO_item_73 (by decide) ?_
          refine lv_iconst (v := 0) hx hb d_MO_item_74 (by decide) ?_
          obtain ⟨cB75, hcB75, hoB75, hkB75⟩ := xw_recv (r := 15) (i := 0) hK hX (by decide) rfl rfl
          refine xc_s (rest := []) (x_invV (argsL := [.int (1 : Int32), .int (0 : Int32), .int (0 : Int32), .int (0 : Int32)]) hx hb hown (hts _ w_671) (hts _ w_673) (hts _ w_20) (x_code (hts _ w_674)) ⟨by decide, by decide⟩ hcB75 hoB75 hkB75 rfl rfl rfl d_MO_item_75) (c_MO_throwing h0 σ (1 : Int32) (0 : Int32) (0 : Int32) (0 : Int32)) (xs_cw h0 hW0 m_674) (hts _ w_38) ⟨rfl, rfl, Nat.le_of_ble_eq_true rfl, Nat.le_of_ble_eq_true rfl⟩ (hl.1.trans hml.symm) (by rw [hb]; exact d_MO_item_75) (Nat.le_of_ble_eq_true rfl) ⟨Nat.le_of_ble_eq_true rfl, Nat.le_of_ble_eq_true rfl⟩ hX hW0 hS (fun v75 σ75 H locs hM75 hX hS => ?_) (fun E x H1 locs1 hM => by cases hM)
          obtain ⟨ev75, es75⟩ := x_inl hM75
          subst es75
          subst ev75
          refine lv_if_eq (tgt := 82) hx hb d_MO_item_78 (by decide) (fun c78 => ?_) (fun c78 => ?_)
          · exact absurd c78 (thr_n1 (by decide))
          · subst hR
            refine W.widen (k := 0) (n := 0) (by decide) (by decide) ?_; exact xs_v hx hb hr hlocks hX hS d_MO_item_81
        · exact absurd c48 (by decide)
      · rw [if_pos c31] at hR
        refine lv_iconst (v := 1) hx hb d_MO_item_34 (by decide) ?_
        refine lv_goto (tgt := 39) hx hb d_MO_item_35 (by decide) ?_
        refine lv_istore (lv' := [(5, .int (1 : Int32)), (4, .int (1 : Int32)), (0, .ref (xB s0 + XA 15 0)), (1, .int it), (2, .int gr), (3, .int le)]) hx hb d_MO_item_39 hl (by decide) rfl (fun ls hl => ?_)
        refine lv_aload_n hx hb d_MO_item_41 rfl (lv_at hl 2 rfl) ?_
        refine lv_iload hx hb d_MO_item_42 (lv_at hl 1 rfl) ?_
        refine lv_iload hx hb d_MO_item_44 (lv_at hl 0 rfl) ?_
        refine lv_iload hx hb d_MO_item_46 (lv_at hl 1 rfl) ?_
        refine lv_if_ne (tgt := 73) hx hb d_MO_item_48 (by decide) (fun c48 => ?_) (fun c48 => ?_)
        · refine lv_iconst (v := 0) hx hb d_MO_item_73 (by decide) ?_
          refine lv_iconst (v := 0) hx hb d_MO_item_74 (by decide) ?_
          obtain ⟨cB75, hcB75, hoB75, hkB75⟩ := xw_recv (r := 15) (i := 0) hK hX (by decide) rfl rfl
          refine xc_s (rest := []) (x_invV (argsL := [.int (1 : Int32), .int (1 : Int32), .int (0 : Int32), .int (0 : Int32)]) hx hb hown (hts _ w_671) (hts _ w_673) (hts _ w_20) (x_code (hts _ w_674)) ⟨by decide, by decide⟩ hcB75 hoB75 hkB75 rfl rfl rfl d_MO_item_75) (c_MO_throwing h0 σ (1 : Int32) (1 : Int32) (0 : Int32) (0 : Int32)) (xs_cw h0 hW0 m_674) (hts _ w_38) ⟨rfl, rfl, Nat.le_of_ble_eq_true rfl, Nat.le_of_ble_eq_true rfl⟩ (hl.1.trans hml.symm) (by rw [hb]; exact d_MO_item_75) (Nat.le_of_ble_eq_true rfl) ⟨Nat.le_of_ble_eq_true rfl, Nat.le_of_ble_eq_true rfl⟩ hX hW0 hS (fun v75 σ75 H locs hM75 hX hS => ?_) (fun E x H1 locs1 hM => by cases hM)
          obtain ⟨ev75, es75⟩ := x_inl hM75
          subst es75
          subst ev75
          refine lv_if_eq (tgt := 82) hx hb d_MO_item_78 (by decide) (fun c78 => ?_) (fun c78 => ?_)
          · exact absurd c78 (thr_n1 (by decide))
          · subst hR
            refine W.widen (k := 0) (n := 0) (by decide) (by decide) ?_; exact xs_v hx hb hr hlocks hX hS d_MO_item_81
        · exact absurd c48 (by decide)

abbrev rm_MO_list : Room := { frames := 2, cells := 0, slots := 0, locals := 42 }
def S_MO_list (σ : XS) (kd : Int32) (cu : Int32) (it : Int32) (n : Int32) : Unit × XS := (if (S_MO_in σ kd (0 : Int32) (5 : Int32)) = 0 then (if (S_MO_in σ n (0 : Int32) (99 : Int32)) = 0 then ((), (S_MO_throwing σ (1 : Int32) (1 : Int32) (0 : Int32) (0 : Int32)).2) else ((), (S_MO_throwing σ (1 : Int32) (0 : Int32) (0 : Int32) (0 : Int32)).2)) else (if (S_MO_isCupboard σ cu) = 0 then (if (S_MO_in σ n (0 : Int32) (99 : Int32)) = 0 then ((), (S_MO_throwing σ (1 : Int32) (1 : Int32) (0 : Int32) (0 : Int32)).2) else ((), (S_MO_throwing σ (1 : Int32) (0 : Int32) (0 : Int32) (0 : Int32)).2)) else (if (S_MO_isItem σ it) = 0 then (if (S_MO_in σ n (0 : Int32) (99 : Int32)) = 0 then ((), (S_MO_throwing σ (1 : Int32) (1 : Int32) (0 : Int32) (0 : Int32)).2) else ((), (S_MO_throwing σ (1 : Int32) (0 : Int32) (0 : Int32) (0 : Int32)).2)) else (if (S_MO_in σ n (0 : Int32) (99 : Int32)) = 0 then ((), (S_MO_throwing σ (0 : Int32) (1 : Int32) (0 : Int32) (0 : Int32)).2) else ((), (xuI (S_MO_throwing σ (0 : Int32) (0 : Int32) (0 : Int32) (0 : Int32)).2 29 0 ((((240 : Int32) * kd) + ((30 : Int32) * cu)) + it).toNatClampNeg n))))))
set_option maxHeartbeats 4000000 in
set_option maxRecDepth 100000 in
theorem c_MO_list {l : Launch} {s0 : State} {A0 : Array Value} {D : va_G} {dA : Nat → ClassId} (h0 : XS0 l s0 A0 D dA) (σ : XS) (kd : Int32) (cu : Int32) (it : Int32) (n : Int32)  : XMet l y_MO_list [cw_MO_list] rm_MO_list (XP D dA s0 σ [.ref (xB s0 + XA 15 0), .int kd, .int cu, .int it, .int n]) (XQs D dA s0 xv_v (.inl (S_MO_list σ kd cu it n))) 0 0 (xAm s0) := by
  refine XMet.ofW (cc := b_MO_list) (maxL := 5) (ret := none) (by decide) rfl ?_
  intro p e s m args below meth c s₁ Bd hml hvA
  obtain ⟨rfl, hX, hO⟩ := hvA
  have hx := Bd.exec
  have hb := Bd.bytes
  have hr := Bd.returns
  have hown : s.vm.findClass "LoadChecksModel" = some m.cls := findClass_of_methodNamed Bd.named
  have hlocks := Bd.notSynchronized
  have hnt : c.exceptionTable.isEmpty = true := Bd.noHandlers (atoms_spec (ws := [cw_MO_list]) Bd.pre _ List.mem_cons_self)
  have hW0 := hO.1
  have hts := xs_w (args := ([.ref (xB s0 + XA 15 0), .int kd, .int cu, .int it, .int n] : List Value).toArray) h0 hW0
  have hK := xs_K h0 hW0
  have hS := xo_S0 hO
  have hl := lv_entry ([.ref (xB s0 + XA 15 0), .int kd, .int cu, .int it, .int n]) (n := 5) (Nat.le_of_ble_eq_true rfl)
  rw [lg_entry_eq]
  generalize (lg_sl ([.ref (xB s0 + XA 15 0), .int kd, .int cu, .int it, .int n]) ++ List.replicate (5 - (lg_sl ([.ref (xB s0 + XA 15 0), .int kd, .int cu, .int it, .int n])).length) Slot.unset).toArray = ls at hl ⊢
  have hl : lv_has ls 5 [(0, .ref (xB s0 + XA 15 0)), (1, .int kd), (2, .int cu), (3, .int it), (4, .int n)] := hl
  generalize hR : S_MO_list σ kd cu it n = res
  unfold S_MO_list at hR
  refine lv_aload_n hx hb d_MO_list_0 rfl (lv_at hl 0 rfl) ?_
  refine lv_iload_n hx hb d_MO_list_1 rfl (lv_at hl 1 rfl) ?_
  refine lv_iconst (v := 0) hx hb d_MO_list_2 (by decide) ?_
  refine lv_iconst (v := 5) hx hb d_MO_list_3 (by decide) ?_
  refine xc_f (rest := [.ref (xB s0 + XA 15 0)]) (x_invS (argsL := [.int kd, .int (0 : Int32), .int (5 : Int32)]) hx hb hown (hts _ w_664) (hts _ w_665) (hts _ w_38) (x_code (hts _ w_666)) ⟨by decide, by decide⟩ rfl rfl rfl d_MO_list_4) (c_MO_in h0 σ kd (0 : Int32) (5 : Int32)) (xs_cw h0 hW0 m_666) (hts _ w_38) ⟨rfl, rfl, Nat.le_of_ble_eq_true rfl, Nat.le_of_ble_eq_true rfl⟩ (hl.1.trans hml.symm) (by rw [hb]; exact d_MO_list_4) (Nat.le_of_ble_eq_true rfl) ⟨Nat.le_of_ble_eq_true rfl, Nat.le_of_ble_eq_true rfl⟩ hX ⟨hW0, xo_S hS⟩ ?_
  refine lv_if_eq (tgt := 24) hx hb d_MO_list_7 (by decide) (fun c7 => ?_) (fun c7 => ?_)
  · rw [if_pos c7] at hR
    refine lv_iconst (v := 1) hx hb d_MO_list_24 (by decide) ?_
    refine lv_goto (tgt := 29) hx hb d_MO_list_25 (by decide) ?_
    refine lv_iload hx hb d_MO_list_29 (lv_at hl 4 rfl) ?_
    refine lv_iconst (v := 0) hx hb d_MO_list_31 (by decide) ?_
    refine lv_bipush (v := 99) hx hb d_MO_list_32 (by decide) ?_
    refine xc_f (rest := [.int (1 : Int32), .ref (xB s0 + XA 15 0)]) (x_invS (argsL := [.int n, .int (0 : Int32), .int (99 : Int32)]) hx hb hown (hts _ w_664) (hts _ w_665) (hts _ w_38) (x_code (hts _ w_666)) ⟨by decide, by decide⟩ rfl rfl rfl d_MO_list_34) (c_MO_in h0 σ n (0 : Int32) (99 : Int32)) (xs_cw h0 hW0 m_666) (hts _ w_38) ⟨rfl, rfl, Nat.le_of_ble_eq_true rfl, Nat.le_of_ble_eq_true rfl⟩ (hl.1.trans hml.symm) (by rw [hb]; exact d_MO_list_34) (Nat.le_of_ble_eq_true rfl) ⟨Nat.le_of_ble_eq_true rfl, Nat.le_of_ble_eq_true rfl⟩ hX ⟨hW0, xo_S hS⟩ ?_
    refine lv_if_ne (tgt := 44) hx hb d_MO_list_37 (by decide) (fun c37 => ?_) (fun c37 => ?_)
    · rw [if_neg c37] at hR
      refine lv_iconst (v := 0) hx hb d_MO_list_44 (by decide) ?_
      refine lv_iconst (v := 0) hx hb d_MO_list_45 (by decide) ?_
      refine lv_iconst (v := 0) hx hb d_MO_list_46 (by decide) ?_
      obtain ⟨cB47, hcB47, hoB47, hkB47⟩ := xw_recv (r := 15) (i := 0) hK hX (by decide) rfl rfl
      refine xc_s (rest := []) (x_invV (argsL := [.int (1 : Int32), .int (0 : Int32), .int (0 : Int32), .int (0 : Int32)]) hx hb hown (hts _ w_671) (hts _ w_673) (hts _ w_20) (x_code (hts _ w_674)) ⟨by decide, by decide⟩ hcB47 hoB47 hkB47 rfl rfl rfl d_MO_list_47) (c_MO_throwing h0 σ (1 : Int32) (0 : Int32) (0 : Int32) (0 : Int32)) (xs_cw h0 hW0 m_674) (hts _ w_38) ⟨rfl, rfl, Nat.le_of_ble_eq_true rfl, Nat.le_of_ble_eq_true rfl⟩ (hl.1.trans hml.symm) (by rw [hb]; exact d_MO_list_47) (Nat.le_of_ble_eq_true rfl) ⟨Nat.le_of_ble_eq_true rfl, Nat.le_of_ble_eq_true rfl⟩ hX hW0 hS (fun v47 σ47 H locs hM47 hX hS => ?_) (fun E x H1 locs1 hM => by cases hM)
      obtain ⟨ev47, es47⟩ := x_inl hM47
      subst es47
      subst ev47
      refine lv_if_eq (tgt := 54) hx hb d_MO_list_50 (by decide) (fun c50 => ?_) (fun c50 => ?_)
      · exact absurd c50 (thr_n1 (by decide))
      · subst hR
        refine W.widen (k := 0) (n := 0) (by decide) (by decide) ?_; exact xs_v hx hb hr hlocks hX hS d_MO_list_53
    · rw [if_pos c37] at hR
      refine lv_iconst (v := 1) hx hb d_MO_list_40 (by decide) ?_
      refine lv_goto (tgt := 45) hx hb d_MO_list_41 (by decide) ?_
      refine lv_iconst (v := 0) hx hb d_MO_list_45 (by decide) ?_
      refine lv_iconst (v := 0) hx hb d_MO_list_46 (by decide) ?_
      obtain ⟨cB47, hcB47, hoB47, hkB47⟩ := xw_recv (r := 15) (i := 0) hK hX (by decide) rfl rfl
      refine xc_s (rest := []) (x_invV (argsL := [.int (1 : Int32), .int (1 : Int32), .int (0 : Int32), .int (0 : Int32)]) hx hb hown (hts _ w_671) (hts _ w_673) (hts _ w_20) (x_code (hts _ w_674)) ⟨by decide, by decide⟩ hcB47 hoB47 hkB47 rfl rfl rfl d_MO_list_47) (c_MO_throwing h0 σ (1 : Int32) (1 : Int32) (0 : Int32) (0 : Int32)) (xs_cw h0 hW0 m_674) (hts _ w_38) ⟨rfl, rfl, Nat.le_of_ble_eq_true rfl, Nat.le_of_ble_eq_true rfl⟩ (hl.1.trans hml.symm) (by rw [hb]; exact d_MO_list_47) (Nat.le_of_ble_eq_true rfl) ⟨Nat.le_of_ble_eq_true rfl, Nat.le_of_ble_eq_true rfl⟩ hX hW0 hS (fun v47 σ47 H locs hM47 hX hS => ?_) (fun E x H1 locs1 hM => by cases hM)
      obtain ⟨ev47, es47⟩ := x_inl hM47
      subst es47
      subst ev47
      refine lv_if_eq (tgt := 54) hx hb d_MO_list_50 (by decide) (fun c50 => ?_) (fun c50 => ?_)
      · exact absurd c50 (thr_n1 (by decide))
      · subst hR
        refine W.widen (k := 0) (n := 0) (by decide) (by decide) ?_; exact xs_v hx hb hr hlocks hX hS d_MO_list_53
  · rw [if_neg c7] at hR
    refine lv_iload_n hx hb d_MO_list_10 rfl (lv_at hl 2 rfl) ?_
    refine xc_f (rest := [.ref (xB s0 + XA 15 0)]) (x_invS (argsL := [.int cu]) hx hb hown (hts _ w_687) (hts _ w_688) (hts _ w_38) (x_code (hts _ w_689)) ⟨by decide, by decide⟩ rfl rfl rfl d_MO_list_11) (c_MO_isCupboard h0 σ cu) (xs_cw h0 hW0 m_689) (hts _ w_38) ⟨rfl, rfl, Nat.le_of_ble_eq_true rfl, Nat.le_of_ble_eq_true rfl⟩ (hl.1.trans hml.symm) (by rw [hb]; exact d_MO_list_11) (Nat.le_of_ble_eq_true rfl) ⟨Nat.le_of_ble_eq_true rfl, Nat.le_of_ble_eq_true rfl⟩ hX ⟨hW0, xo_S hS⟩ ?_
    refine lv_if_eq (tgt := 24) hx hb d_MO_list_14 (by decide) (fun c14 => ?_) (fun c14 => ?_)
    · rw [if_pos c14] at hR
      refine lv_iconst (v := 1) hx hb d_MO_list_24 (by decide) ?_
      refine lv_goto (tgt := 29) hx hb d_MO_list_25 (by decide) ?_
      refine lv_iload hx hb d_MO_list_29 (lv_at hl 4 rfl) ?_
      refine lv_iconst (v := 0) hx hb d_MO_list_31 (by decide) ?_
      refine lv_bipush (v := 99) hx hb d_MO_list_32 (by decide) ?_
      refine xc_f (rest := [.int (1 : Int32), .ref (xB s0 + XA 15 0)]) (x_invS (argsL := [.int n, .int (0 : Int32), .int (99 : Int32)]) hx hb hown (hts _ w_664) (hts _ w_665) (hts _ w_38) (x_code (hts _ w_666)) ⟨by decide, by decide⟩ rfl rfl rfl d_MO_list_34) (c_MO_in h0 σ n (0 : Int32) (99 : Int32)) (xs_cw h0 hW0 m_666) (hts _ w_38) ⟨rfl, rfl, Nat.le_of_ble_eq_true rfl, Nat.le_of_ble_eq_true rfl⟩ (hl.1.trans hml.symm) (by rw [hb]; exact d_MO_list_34) (Nat.le_of_ble_eq_true rfl) ⟨Nat.le_of_ble_eq_true rfl, Nat.le_of_ble_eq_true rfl⟩ hX ⟨hW0, xo_S hS⟩ ?_
      refine lv_if_ne (tgt := 44) hx hb d_MO_list_37 (by decide) (fun c37 => ?_) (fun c37 => ?_)
      · rw [if_neg c37] at hR
        refine lv_iconst (v := 0) hx hb d_MO_list_44 (by decide) ?_
        refine lv_iconst (v := 0) hx hb d_MO_list_45 (by decide) ?_
        refine lv_iconst (v := 0) hx hb d_MO_list_46 (by decide) ?_
        obtain ⟨cB47, hcB47, hoB47, hkB47⟩ := xw_recv (r := 15) (i := 0) hK hX (by decide) rfl rfl
        refine xc_s (rest := []) (x_invV (argsL := [.int (1 : Int32), .int (0 : Int32), .int (0 : Int32), .int (0 : Int32)]) hx hb hown (hts _ w_671) (hts _ w_673) (hts _ w_20) (x_code (hts _ w_674)) ⟨by decide, by decide⟩ hcB47 hoB47 hkB47 rfl rfl rfl d_MO_list_47) (c_MO_throwing h0 σ (1 : Int32) (0 : Int32) (0 : Int32) (0 : Int32)) (xs_cw h0 hW0 m_674) (hts _ w_38) ⟨rfl, rfl, Nat.le_of_ble_eq_true rfl, Nat.le_of_ble_eq_true rfl⟩ (hl.1.trans hml.symm) (by rw [hb]; exact d_MO_list_47) (Nat.le_of_ble_eq_true rfl) ⟨Nat.le_of_ble_eq_true rfl, Nat.le_of_ble_eq_true rfl⟩ hX hW0 hS (fun v47 σ47 H locs hM47 hX hS => ?_) (fun E x H1 locs1 hM => by cases hM)
        obtain ⟨ev47, es47⟩ := x_inl hM47
        subst es47
        subst ev47
        refine lv_if_eq (tgt := 54) hx hb d_MO_list_50 (by decide) (fun c50 => ?_) (fun c50 => ?_)
        · exact absurd c50 (thr_n1 (by decide))
        · subst hR
          refine W.widen (k := 0) (n := 0) (by decide) (by decide) ?_; exact xs_v hx hb hr hlocks hX hS d_MO_list_53
      · rw [if_pos c37] at hR
        refine lv_iconst (v := 1) hx hb d_MO_list_40 (by decide) ?_
        refine lv_goto (tgt := 45) hx hb d_MO_list_41 (by decide) ?_
        refine lv_iconst (v := 0) hx hb d_MO_list_45 (by decide) ?_
        refine lv_iconst (v := 0) hx hb d_MO_list_46 (by decide) ?_
        obtain ⟨cB47, hcB47, hoB47, hkB47⟩ := xw_recv (r := 15) (i := 0) hK hX (by decide) rfl rfl
        refine xc_s (rest := []) (x_invV (argsL := [.int (1 : Int32), .int (1 : Int32), .int (0 : Int32), .int (0 : Int32)]) hx hb hown (hts _ w_671) (hts _ w_673) (hts _ w_20) (x_code (hts _ w_674)) ⟨by decide, by decide⟩ hcB47 hoB47 hkB47 rfl rfl rfl d_MO_list_47) (c_MO_throwing h0 σ (1 : Int32) (1 : Int32) (0 : Int32) (0 : Int32)) (xs_cw h0 hW0 m_674) (hts _ w_38) ⟨rfl, rfl, Nat.le_of_ble_eq_true rfl, Nat.le_of_ble_eq_true rfl⟩ (hl.1.trans hml.symm) (by rw [hb]; exact d_MO_list_47) (Nat.le_of_ble_eq_true rfl) ⟨Nat.le_of_ble_eq_true rfl, Nat.le_of_ble_eq_true rfl⟩ hX hW0 hS (fun v47 σ47 H locs hM47 hX hS => ?_) (fun E x H1 locs1 hM => by cases hM)
        obtain ⟨ev47, es47⟩ := x_inl hM47
        subst es47
        subst ev47
        refine lv_if_eq (tgt := 54) hx hb d_MO_list_50 (by decide) (fun c50 => ?_) (fun c50 => ?_)
        · exact absurd c50 (thr_n1 (by decide))
        · subst hR
          refine W.widen (k := 0) (n := 0) (by decide) (by decide) ?_; exact xs_v hx hb hr hlocks hX hS d_MO_list_53
    · rw [if_neg c14] at hR
      refine lv_iload_n hx hb d_MO_list_17 rfl (lv_at hl 3 rfl) ?_
      refine xc_f (rest := [.ref (xB s0 + XA 15 0)]) (x_invS (argsL := [.int it]) hx hb hown (hts _ w_698) (hts _ w_699) (hts _ w_38) (x_code (hts _ w_700)) ⟨by decide, by decide⟩ rfl rfl rfl d_MO_list_18) (c_MO_isItem h0 σ it) (xs_cw h0 hW0 m_700) (hts _ w_38) ⟨rfl, rfl, Nat.le_of_ble_eq_true rfl, Nat.le_of_ble_eq_true rfl⟩ (hl.1.trans hml.symm) (by rw [hb]; exact d_MO_list_18) (Nat.le_of_ble_eq_true rfl) ⟨Nat.le_of_ble_eq_true rfl, Nat.le_of_ble_eq_true rfl⟩ hX ⟨hW0, xo_S hS⟩ ?_
      refine lv_if_ne (tgt := 28) hx hb d_MO_list_21 (by decide) (fun c21 => ?_) (fun c21 => ?_)
      · rw [if_neg c21] at hR
        refine lv_iconst (v := 0) hx hb d_MO_list_28 (by decide) ?_
        refine lv_iload hx hb d_MO_list_29 (lv_at hl 4 rfl) ?_
        refine lv_iconst (v := 0) hx hb d_MO_list_31 (by decide) ?_
        refine lv_bipush (v := 99) hx hb d_MO_list_32 (by decide) ?_
        refine xc_f (rest := [.int (0 : Int32), .ref (xB s0 + XA 15 0)]) (x_invS (argsL := [.int n, .int (0 : Int32), .int (99 : Int32)]) hx hb hown (hts _ w_664) (hts _ w_665) (hts _ w_38) (x_code (hts _ w_666)) ⟨by decide, by decide⟩ rfl rfl rfl d_MO_list_34) (c_MO_in h0 σ n (0 : Int32) (99 : Int32)) (xs_cw h0 hW0 m_666) (hts _ w_38) ⟨rfl, rfl, Nat.le_of_ble_eq_true rfl, Nat.le_of_ble_eq_true rfl⟩ (hl.1.trans hml.symm) (by rw [hb]; exact d_MO_list_34) (Nat.le_of_ble_eq_true rfl) ⟨Nat.le_of_ble_eq_true rfl, Nat.le_of_ble_eq_true rfl⟩ hX ⟨hW0, xo_S hS⟩ ?_
        refine lv_if_ne (tgt := 44) hx hb d_MO_list_37 (by decide) (fun c37 => ?_) (fun c37 => ?_)
        · rw [if_neg c37] at hR
          refine lv_iconst (v := 0) hx hb d_MO_list_44 (by decide) ?_
          refine lv_iconst (v := 0) hx hb d_MO_list_45 (by decide) ?_
          refine lv_iconst (v := 0) hx hb d_MO_list_46 (by decide) ?_
          obtain ⟨cB47, hcB47, hoB47, hkB47⟩ := xw_recv (r := 15) (i := 0) hK hX (by decide) rfl rfl
          refine xc_s (rest := []) (x_invV (argsL := [.int (0 : Int32), .int (0 : Int32), .int (0 : Int32), .int (0 : Int32)]) hx hb hown (hts _ w_671) (hts _ w_673) (hts _ w_20) (x_code (hts _ w_674)) ⟨by decide, by decide⟩ hcB47 hoB47 hkB47 rfl rfl rfl d_MO_list_47) (c_MO_throwing h0 σ (0 : Int32) (0 : Int32) (0 : Int32) (0 : Int32)) (xs_cw h0 hW0 m_674) (hts _ w_38) ⟨rfl, rfl, Nat.le_of_ble_eq_true rfl, Nat.le_of_ble_eq_true rfl⟩ (hl.1.trans hml.symm) (by rw [hb]; exact d_MO_list_47) (Nat.le_of_ble_eq_true rfl) ⟨Nat.le_of_ble_eq_true rfl, Nat.le_of_ble_eq_true rfl⟩ hX hW0 hS (fun v47 σ47 H locs hM47 hX hS => ?_) (fun E x H1 locs1 hM => by cases hM)
          obtain ⟨ev47, es47⟩ := x_inl hM47
          subst es47
          subst ev47
          refine lv_if_eq (tgt := 54) hx hb d_MO_list_50 (by decide) (fun c50 => ?_) (fun c50 => ?_)
          · refine lv_aload_n hx hb d_MO_list_54 rfl (lv_at hl 0 rfl) ?_
            refine xw_get (C := R_MO) (T := F_MO) (N := 20) (r := 15) (i := 0) hx hb hts hi_MO hown hK hX (by decide) rfl rfl 17 (by decide) (hts _ w_612) rfl rfl d_MO_list_55 ?_
            refine lv_sipush (v := 240) hx hb d_MO_list_58 (by decide) ?_
            refine lv_iload_n hx hb d_MO_list_61 rfl (lv_at hl 1 rfl) ?_
            refine lv_imul hx hb d_MO_list_62 ?_
            refine lv_bipush (v := 30) hx hb d_MO_list_63 (by decide) ?_
            refine lv_iload_n hx hb d_MO_list_65 rfl (lv_at hl 2 rfl) ?_
            refine lv_imul hx hb d_MO_list_66 ?_
            refine lv_iadd hx hb d_MO_list_67 ?_
            refine lv_iload_n hx hb d_MO_list_68 rfl (lv_at hl 3 rfl) ?_
            refine lv_iadd hx hb d_MO_list_69 ?_
            refine lv_iload hx hb d_MO_list_70 (lv_at hl 4 rfl) ?_
            refine xw_iast (r := 29) (i := 0) (ent' := XE dA (xB s0) (xuI (S_MO_throwing σ (0 : Int32) (0 : Int32) (0 : Int32) (0 : Int32)).2 29 0 ((((240 : Int32) * kd) + ((30 : Int32) * cu)) + it).toNatClampNeg n)) hx hb hK xInj hX hS (xA_in _ _ _) (by decide) 0 rfl rfl (j := ((((240 : Int32) * kd) + ((30 : Int32) * cu)) + it)) (o_n3 (m_kd c7) (m_cup c14) (m_item c21)) ((xe_uI dA (xB s0) ((S_MO_throwing σ (0 : Int32) (0 : Int32) (0 : Int32) (0 : Int32)).2) 29 0 ((((240 : Int32) * kd) + ((30 : Int32) * cu)) + it).toNatClampNeg n).trans rfl) (xe_oI dA (xB s0) ((S_MO_throwing σ (0 : Int32) (0 : Int32) (0 : Int32) (0 : Int32)).2) 29 0 ((((240 : Int32) * kd) + ((30 : Int32) * cu)) + it).toNatClampNeg n) d_MO_list_72 (fun H locs hX hS => ?_)
            subst hR
            refine W.widen (k := 0) (n := 0) (by decide) (by decide) ?_; exact xs_v hx hb hr hlocks hX hS d_MO_list_73
          · exact absurd thr_z c50
        · rw [if_pos c37] at hR
          refine lv_iconst (v := 1) hx hb d_MO_list_40 (by decide) ?_
          refine lv_goto (tgt := 45) hx hb d_MO_list_41 (by decide) ?_
          refine lv_iconst (v := 0) hx hb d_MO_list_45 (by decide) ?_
          refine lv_iconst (v := 0) hx hb d_MO_list_46 (by decide) ?_
          obtain ⟨cB47, hcB47, hoB47, hkB47⟩ := xw_recv (r := 15) (i := 0) hK hX (by decide) rfl rfl
          refine xc_s (rest := []) (x_invV (argsL := [.int (0 : Int32), .int (1 : Int32), .int (0 : Int32), .int (0 : Int32)]) hx hb hown (hts _ w_671) (hts _ w_673) (hts _ w_20) (x_code (hts _ w_674)) ⟨by decide, by decide⟩ hcB47 hoB47 hkB47 rfl rfl rfl d_MO_list_47) (c_MO_throwing h0 σ (0 : Int32) (1 : Int32) (0 : Int32) (0 : Int32)) (xs_cw h0 hW0 m_674) (hts _ w_38) ⟨rfl, rfl, Nat.le_of_ble_eq_true rfl, Nat.le_of_ble_eq_true rfl⟩ (hl.1.trans hml.symm) (by rw [hb]; exact d_MO_list_47) (Nat.le_of_ble_eq_true rfl) ⟨Nat.le_of_ble_eq_true rfl, Nat.le_of_ble_eq_true rfl⟩ hX hW0 hS (fun v47 σ47 H locs hM47 hX hS => ?_) (fun E x H1 locs1 hM => by cases hM)
          obtain ⟨ev47, es47⟩ := x_inl hM47
          subst es47
          subst ev47
          refine lv_if_eq (tgt := 54) hx hb d_MO_list_50 (by decide) (fun c50 => ?_) (fun c50 => ?_)
          · exact absurd c50 (thr_n2 (by decide))
          · subst hR
            refine W.widen (k := 0) (n := 0) (by decide) (by decide) ?_; exact xs_v hx hb hr hlocks hX hS d_MO_list_53
      · rw [if_pos c21] at hR
        refine lv_iconst (v := 1) hx hb d_MO_list_24 (by decide) ?_
        refine lv_goto (tgt := 29) hx hb d_MO_list_25 (by decide) ?_
        refine lv_iload hx hb d_MO_list_29 (lv_at hl 4 rfl) ?_
        refine lv_iconst (v := 0) hx hb d_MO_list_31 (by decide) ?_
        refine lv_bipush (v := 99) hx hb d_MO_list_32 (by decide) ?_
        refine xc_f (rest := [.int (1 : Int32), .ref (xB s0 + XA 15 0)]) (x_invS (argsL := [.int n, .int (0 : Int32), .int (99 : Int32)]) hx hb hown (hts _ w_664) (hts _ w_665) (hts _ w_38) (x_code (hts _ w_666)) ⟨by decide, by decide⟩ rfl rfl rfl d_MO_list_34) (c_MO_in h0 σ n (0 : Int32) (99 : Int32)) (xs_cw h0 hW0 m_666) (hts _ w_38) ⟨rfl, rfl, Nat.le_of_ble_eq_true rfl, Nat.le_of_ble_eq_true rfl⟩ (hl.1.trans hml.symm) (by rw [hb]; exact d_MO_list_34) (Nat.le_of_ble_eq_true rfl) ⟨Nat.le_of_ble_eq_true rfl, Nat.le_of_ble_eq_true rfl⟩ hX ⟨hW0, xo_S hS⟩ ?_
        refine lv_if_ne (tgt := 44) hx hb d_MO_list_37 (by decide) (fun c37 => ?_) (fun c37 => ?_)
        · rw [if_neg c37] at hR
          refine lv_iconst (v := 0) hx hb d_MO_list_44 (by decide) ?_
          refine lv_iconst (v := 0) hx hb d_MO_list_45 (by decide) ?_
          refine lv_iconst (v := 0) hx hb d_MO_list_46 (by decide) ?_
          obtain ⟨cB47, hcB47, hoB47, hkB47⟩ := xw_recv (r := 15) (i := 0) hK hX (by decide) rfl rfl
          refine xc_s (rest := []) (x_invV (argsL := [.int (1 : Int32), .int (0 : Int32), .int (0 : Int32), .int (0 : Int32)]) hx hb hown (hts _ w_671) (hts _ w_673) (hts _ w_20) (x_code (hts _ w_674)) ⟨by decide, by decide⟩ hcB47 hoB47 hkB47 rfl rfl rfl d_MO_list_47) (c_MO_throwing h0 σ (1 : Int32) (0 : Int32) (0 : Int32) (0 : Int32)) (xs_cw h0 hW0 m_674) (hts _ w_38) ⟨rfl, rfl, Nat.le_of_ble_eq_true rfl, Nat.le_of_ble_eq_true rfl⟩ (hl.1.trans hml.symm) (by rw [hb]; exact d_MO_list_47) (Nat.le_of_ble_eq_true rfl) ⟨Nat.le_of_ble_eq_true rfl, Nat.le_of_ble_eq_true rfl⟩ hX hW0 hS (fun v47 σ47 H locs hM47 hX hS => ?_) (fun E x H1 locs1 hM => by cases hM)
          obtain ⟨ev47, es47⟩ := x_inl hM47
          subst es47
          subst ev47
          refine lv_if_eq (tgt := 54) hx hb d_MO_list_50 (by decide) (fun c50 => ?_) (fun c50 => ?_)
          · exact absurd c50 (thr_n1 (by decide))
          · subst hR
            refine W.widen (k := 0) (n := 0) (by decide) (by decide) ?_; exact xs_v hx hb hr hlocks hX hS d_MO_list_53
        · rw [if_pos c37] at hR
          refine lv_iconst (v := 1) hx hb d_MO_list_40 (by decide) ?_
          refine lv_goto (tgt := 45) hx hb d_MO_list_41 (by decide) ?_
          refine lv_iconst (v := 0) hx hb d_MO_list_45 (by decide) ?_
          refine lv_iconst (v := 0) hx hb d_MO_list_46 (by decide) ?_
          obtain ⟨cB47, hcB47, hoB47, hkB47⟩ := xw_recv (r := 15) (i := 0) hK hX (by decide) rfl rfl
          refine xc_s (rest := []) (x_invV (argsL := [.int (1 : Int32), .int (1 : Int32), .int (0 : Int32), .int (0 : Int32)]) hx hb hown (hts _ w_671) (hts _ w_673) (hts _ w_20) (x_code (hts _ w_674)) ⟨by decide, by decide⟩ hcB47 hoB47 hkB47 rfl rfl rfl d_MO_list_47) (c_MO_throwing h0 σ (1 : Int32) (1 : Int32) (0 : Int32) (0 : Int32)) (xs_cw h0 hW0 m_674) (hts _ w_38) ⟨rfl, rfl, Nat.le_of_ble_eq_true rfl, Nat.le_of_ble_eq_true rfl⟩ (hl.1.trans hml.symm) (by rw [hb]; exact d_MO_list_47) (Nat.le_of_ble_eq_true rfl) ⟨Nat.le_of_ble_eq_true rfl, Nat.le_of_ble_eq_true rfl⟩ hX hW0 hS (fun v47 σ47 H locs hM47 hX hS => ?_) (fun E x H1 locs1 hM => by cases hM)
          obtain ⟨ev47, es47⟩ := x_inl hM47
          subst es47
          subst ev47
          refine lv_if_eq (tgt := 54) hx hb d_MO_list_50 (by decide) (fun c50 => ?_) (fun c50 => ?_)
          · exact absurd c50 (thr_n1 (by decide))
          · subst hR
            refine W.widen (k := 0) (n := 0) (by decide) (by decide) ?_; exact xs_v hx hb hr hlocks hX hS d_MO_list_53

abbrev rm_MO_stock : Room := { frames := 2, cells := 0, slots := 0, locals := 42 }
def S_MO_stock (σ : XS) (it : Int32) (n : Int32) : Int32 × XS := (if (S_MO_isItem σ it) = 0 then (if (S_MO_in σ n (1 : Int32) (99 : Int32)) = 0 then ((0 : Int32), (S_MO_throwing σ (1 : Int32) (1 : Int32) (0 : Int32) (0 : Int32)).2) else ((0 : Int32), (S_MO_throwing σ (1 : Int32) (0 : Int32) (0 : Int32) (0 : Int32)).2)) else (if (S_MO_in σ n (1 : Int32) (99 : Int32)) = 0 then ((0 : Int32), (S_MO_throwing σ (0 : Int32) (1 : Int32) (0 : Int32) (0 : Int32)).2) else (if ((σ.1 18 0 it.toNatClampNeg) + n) ≤ (10000 : Int32) then (((xuI (S_MO_throwing σ (0 : Int32) (0 : Int32) (0 : Int32) (0 : Int32)).2 18 0 it.toNatClampNeg ((((S_MO_throwing σ (0 : Int32) (0 : Int32) (0 : Int32) (0 : Int32)).2).1 18 0 it.toNatClampNeg) + n)).1 18 0 it.toNatClampNeg), (xuI (S_MO_throwing σ (0 : Int32) (0 : Int32) (0 : Int32) (0 : Int32)).2 18 0 it.toNatClampNeg ((((S_MO_throwing σ (0 : Int32) (0 : Int32) (0 : Int32) (0 : Int32)).2).1 18 0 it.toNatClampNeg) + n))) else ((0 : Int32), (S_MO_throwing σ (0 : Int32) (0 : Int32) (1 : Int32) (0 : Int32)).2))))
set_option maxHeartbeats 4000000 in
set_option maxRecDepth 100000 in
theorem c_MO_stock {l : Launch} {s0 : State} {A0 : Array Value} {D : va_G} {dA : Nat → ClassId} (h0 : XS0 l s0 A0 D dA) (σ : XS) (it : Int32) (n : Int32)  : XMet l y_MO_stock [cw_MO_stock] rm_MO_stock (XP D dA s0 σ [.ref (xB s0 + XA 15 0), .int it, .int n]) (XQs D dA s0 xv_i (.inl (S_MO_stock σ it n))) 0 0 (xAm s0) := by
  refine XMet.ofW (cc := b_MO_stock) (maxL := 5) (ret := (some .int)) (by decide) rfl ?_
  intro p e s m args below meth c s₁ Bd hml hvA
  obtain ⟨rfl, hX, hO⟩ := hvA
  have hx := Bd.exec
  have hb := Bd.bytes
  have hr := Bd.returns
  have hown : s.vm.findClass "LoadChecksModel" = some m.cls := findClass_of_methodNamed Bd.named
  have hlocks := Bd.notSynchronized
  have hnt : c.exceptionTable.isEmpty = true := Bd.noHandlers (atoms_spec (ws := [cw_MO_stock]) Bd.pre _ List.mem_cons_self)
  have hW0 := hO.1
  have hts := xs_w (args := ([.ref (xB s0 + XA 15 0), .int it, .int n] : List Value).toArray) h0 hW0
  have hK := xs_K h0 hW0
  have hS := xo_S0 hO
  have hl := lv_entry ([.ref (xB s0 + XA 15 0), .int it, .int n]) (n := 5) (Nat.le_of_ble_eq_true rfl)
  rw [lg_entry_eq]
  generalize (lg_sl ([.ref (xB s0 + XA 15 0), .int it, .int n]) ++ List.replicate (5 - (lg_sl ([.ref (xB s0 + XA 15 0), .int it, .int n])).length) Slot.unset).toArray = ls at hl ⊢
  have hl : lv_has ls 5 [(0, .ref (xB s0 + XA 15 0)), (1, .int it), (2, .int n)] := hl
  generalize hR : S_MO_stock σ it n = res
  unfold S_MO_stock at hR
  refine lv_iload_n hx hb d_MO_stock_0 rfl (lv_at hl 1 rfl) ?_
  refine xc_f (rest := []) (x_invS (argsL := [.int it]) hx hb hown (hts _ w_698) (hts _ w_699) (hts _ w_38) (x_code (hts _ w_700)) ⟨by decide, by decide⟩ rfl rfl rfl d_MO_stock_1) (c_MO_isItem h0 σ it) (xs_cw h0 hW0 m_700) (hts _ w_38) ⟨rfl, rfl, Nat.le_of_ble_eq_true rfl, Nat.le_of_ble_eq_true rfl⟩ (hl.1.trans hml.symm) (by rw [hb]; exact d_MO_stock_1) (Nat.le_of_ble_eq_true rfl) ⟨Nat.le_of_ble_eq_true rfl, Nat.le_of_ble_eq_true rfl⟩ hX ⟨hW0, xo_S hS⟩ ?_
  refine lv_if_ne (tgt := 11) hx hb d_MO_stock_4 (by decide) (fun c4 => ?_) (fun c4 => ?_)
  · rw [if_neg c4] at hR
    have hi := m_item c4
    refine lv_iconst (v := 0) hx hb d_MO_stock_11 (by decide) ?_
    refine lv_istore_n (lv' := [(3, .int (0 : Int32)), (0, .ref (xB s0 + XA 15 0)), (1, .int it), (2, .int n)]) hx hb d_MO_stock_12 rfl hl (by decide) rfl (fun ls hl => ?_)
    refine lv_iload_n hx hb d_MO_stock_13 rfl (lv_at hl 3 rfl) ?_
    refine lv_iconst (v := 1) hx hb d_MO_stock_14 (by decide) ?_
    refine lv_bipush (v := 99) hx hb d_MO_stock_15 (by decide) ?_
    refine xc_f (rest := []) (x_invS (argsL := [.int n, .int (1 : Int32), .int (99 : Int32)]) hx hb hown (hts _ w_664) (hts _ w_665) (hts _ w_38) (x_code (hts _ w_666)) ⟨by decide, by decide⟩ rfl rfl rfl d_MO_stock_17) (c_MO_in h0 σ n (1 : Int32) (99 : Int32)) (xs_cw h0 hW0 m_666) (hts _ w_38) ⟨rfl, rfl, Nat.le_of_ble_eq_true rfl, Nat.le_of_ble_eq_true rfl⟩ (hl.1.trans hml.symm) (by rw [hb]; exact d_MO_stock_17) (Nat.le_of_ble_eq_true rfl) ⟨Nat.le_of_ble_eq_true rfl, Nat.le_of_ble_eq_true rfl⟩ hX ⟨hW0, xo_S hS⟩ ?_
    refine lv_if_ne (tgt := 27) hx hb d_MO_stock_20 (by decide) (fun c20 => ?_) (fun c20 => ?_)
    · rw [if_neg c20] at hR
      refine lv_iconst (v := 0) hx hb d_MO_stock_27 (by decide) ?_
      refine lv_istore (lv' := [(4, .int (0 : Int32)), (3, .int (0 : Int32)), (0, .ref (xB s0 + XA 15 0)), (1, .int it), (2, .int n)]) hx hb d_MO_stock_28 hl (by decide) rfl (fun ls hl => ?_)
      refine lv_aload_n hx hb d_MO_stock_30 rfl (lv_at hl 2 rfl) ?_
      refine lv_iload_n hx hb d_MO_stock_31 rfl (lv_at hl 1 rfl) ?_
      refine lv_iload hx hb d_MO_stock_32 (lv_at hl 0 rfl) ?_
      refine lv_iload_n hx hb d_MO_stock_34 rfl (lv_at hl 1 rfl) ?_
      refine lv_if_ne (tgt := 61) hx hb d_MO_stock_35 (by decide) (fun c35 => ?_) (fun c35 => ?_)
      · exact absurd (by decide) c35
      · refine lv_iload hx hb d_MO_stock_38 (lv_at hl 0 rfl) ?_
        refine lv_if_ne (tgt := 61) hx hb d_MO_stock_40 (by decide) (fun c40 => ?_) (fun c40 => ?_)
        · exact absurd (by decide) c40
        · refine lv_aload_n hx hb d_MO_stock_43 rfl (lv_at hl 2 rfl) ?_
          refine xw_get (C := R_MO) (T := F_MO) (N := 20) (r := 15) (i := 0) hx hb hts hi_MO hown hK hX (by decide) rfl rfl 5 (by decide) (hts _ w_600) rfl rfl d_MO_stock_44 ?_
          refine lv_iload_n hx hb d_MO_stock_47 rfl (lv_at hl 3 rfl) ?_
          refine xw_iald (r := 18) (i := 0) hx hb hK hX (by decide) 0 rfl rfl (j := it) hi d_MO_stock_48 ?_
          refine lv_iload_n hx hb d_MO_stock_49 rfl (lv_at hl 4 rfl) ?_
          refine lv_iadd hx hb d_MO_stock_50 ?_
          refine lv_sipush (v := 10000) hx hb d_MO_stock_51 (by decide) ?_
          refine lv_icmp_le (tgt := 61) hx hb d_MO_stock_54 (by decide) (fun c54 => ?_) (fun c54 => ?_)
          · rw [if_pos c54] at hR
            refine lv_iconst (v := 0) hx hb d_MO_stock_61 (by decide) ?_
            refine lv_iconst (v := 0) hx hb d_MO_stock_62 (by decide) ?_
            obtain ⟨cB63, hcB63, hoB63, hkB63⟩ := xw_recv (r := 15) (i := 0) hK hX (by decide) rfl rfl
            refine xc_s (rest := []) (x_invV (argsL := [.int (0 : Int32), .int (0 : Int32), .int (0 : Int32), .int (0 : Int32)]) hx hb hown (hts _ w_671) (hts _ w_673) (hts _ w_20) (x_code (hts _ w_674)) ⟨by decide, by decide⟩ hcB63 hoB63 hkB63 rfl rfl rfl d_MO_stock_63) (c_MO_throwing h0 σ (0 : Int32) (0 : Int32) (0 : Int32) (0 : Int32)) (xs_cw h0 hW0 m_674) (hts _ w_38) ⟨rfl, rfl, Nat.le_of_ble_eq_true rfl, Nat.le_of_ble_eq_true rfl⟩ (hl.1.trans hml.symm) (by rw [hb]; exact d_MO_stock_63) (Nat.le_of_ble_eq_true rfl) ⟨Nat.le_of_ble_eq_true rfl, Nat.le_of_ble_eq_true rfl⟩ hX hW0 hS (fun v63 σ63 H locs hM63 hX hS => ?_) (fun E x H1 locs1 hM => by cases hM)
            obtain ⟨ev63, es63⟩ := x_inl hM63
            subst es63
            subst ev63
            refine lv_if_eq (tgt := 71) hx hb d_MO_stock_66 (by decide) (fun c66 => ?_) (fun c66 => ?_)
            · refine lv_aload_n hx hb d_MO_stock_71 rfl (lv_at hl 2 rfl) ?_
              refine xw_get (C := R_MO) (T := F_MO) (N := 20) (r := 15) (i := 0) hx hb hts hi_MO hown hK hX (by decide) rfl rfl 5 (by decide) (hts _ w_600) rfl rfl d_MO_stock_72 ?_
              refine lv_iload_n hx hb d_MO_stock_75 rfl (lv_at hl 3 rfl) ?_
              refine lv_dup2_11 hx hb d_MO_stock_76 rfl rfl ?_
              refine xw_iald (r := 18) (i := 0) hx hb hK hX (by decide) 0 rfl rfl (j := it) hi d_MO_stock_77 ?_
              refine lv_iload_n hx hb d_MO_stock_78 rfl (lv_at hl 4 rfl) ?_
              refine lv_iadd hx hb d_MO_stock_79 ?_
              refine xw_iast (r := 18) (i := 0) (ent' := XE dA (xB s0) (xuI (S_MO_throwing σ (0 : Int32) (0 : Int32) (0 : Int32) (0 : Int32)).2 18 0 it.toNatClampNeg ((((S_MO_throwing σ (0 : Int32) (0 : Int32) (0 : Int32) (0 : Int32)).2).1 18 0 it.toNatClampNeg) + n))) hx hb hK xInj hX hS (xA_in _ _ _) (by decide) 0 rfl rfl (j := it) hi ((xe_uI dA (xB s0) ((S_MO_throwing σ (0 : Int32) (0 : Int32) (0 : Int32) (0 : Int32)).2) 18 0 it.toNatClampNeg ((((S_MO_throwing σ (0 : Int32) (0 : Int32) (0 : Int32) (0 : Int32)).2).1 18 0 it.toNatClampNeg) + n)).trans rfl) (xe_oI dA (xB s0) ((S_MO_throwing σ (0 : Int32) (0 : Int32) (0 : Int32) (0 : Int32)).2) 18 0 it.toNatClampNeg ((((S_MO_throwing σ (0 : Int32) (0 : Int32) (0 : Int32) (0 : Int32)).2).1 18 0 it.toNatClampNeg) + n)) d_MO_stock_80 (fun H locs hX hS => ?_)
              refine lv_aload_n hx hb d_MO_stock_81 rfl (lv_at hl 2 rfl) ?_
              refine xw_get (C := R_MO) (T := F_MO) (N := 20) (r := 15) (i := 0) hx hb hts hi_MO hown hK hX (by decide) rfl rfl 5 (by decide) (hts _ w_600) rfl rfl d_MO_stock_82 ?_
              refine lv_iload_n hx hb d_MO_stock_85 rfl (lv_at hl 3 rfl) ?_
              refine xw_iald (r := 18) (i := 0) hx hb hK hX (by decide) 0 rfl rfl (j := it) hi d_MO_stock_86 ?_
              subst hR
              refine W.widen (k := 0) (n := 0) (by decide) (by decide) ?_; exact xs_i hx hb hr hlocks hX hS d_MO_stock_87
            · exact absurd thr_z c66
          · rw [if_neg c54] at hR
            refine lv_iconst (v := 1) hx hb d_MO_stock_57 (by decide) ?_
            refine lv_goto (tgt := 62) hx hb d_MO_stock_58 (by decide) ?_
            refine lv_iconst (v := 0) hx hb d_MO_stock_62 (by decide) ?_
            obtain ⟨cB63, hcB63, hoB63, hkB63⟩ := xw_recv (r := 15) (i := 0) hK hX (by decide) rfl rfl
            refine xc_s (rest := []) (x_invV (argsL := [.int (0 : Int32), .int (0 : Int32), .int (1 : Int32), .int (0 : Int32)]) hx hb hown (hts _ w_671) (hts _ w_673) (hts _ w_20) (x_code (hts _ w_674)) ⟨by decide, by decide⟩ hcB63 hoB63 hkB63 rfl rfl rfl d_MO_stock_63) (c_MO_throwing h0 σ (0 : Int32) (0 : Int32) (1 : Int32) (0 : Int32)) (xs_cw h0 hW0 m_674) (hts _ w_38) ⟨rfl, rfl, Nat.le_of_ble_eq_true rfl, Nat.le_of_ble_eq_true rfl⟩ (hl.1.trans hml.symm) (by rw [hb]; exact d_MO_stock_63) (Nat.le_of_ble_eq_true rfl) ⟨Nat.le_of_ble_eq_true rfl, Nat.le_of_ble_eq_true rfl⟩ hX hW0 hS (fun v63 σ63 H locs hM63 hX hS => ?_) (fun E x H1 locs1 hM => by cases hM)
            obtain ⟨ev63, es63⟩ := x_inl hM63
            subst es63
            subst ev63
            refine lv_if_eq (tgt := 71) hx hb d_MO_stock_66 (by decide) (fun c66 => ?_) (fun c66 => ?_)
            · exact absurd c66 (thr_n3 (by decide))
            · refine lv_iconst (v := 0) hx hb d_MO_stock_69 (by decide) ?_
              subst hR
              refine W.widen (k := 0) (n := 0) (by decide) (by decide) ?_; exact xs_i hx hb hr hlocks hX hS d_MO_stock_70
    · rw [if_pos c20] at hR
      refine lv_iconst (v := 1) hx hb d_MO_stock_23 (by decide) ?_
      refine lv_goto (tgt := 28) hx hb d_MO_stock_24 (by decide) ?_
      refine lv_istore (lv' := [(4, .int (1 : Int32)), (3, .int (0 : Int32)), (0, .ref (xB s0 + XA 15 0)), (1, .int it), (2, .int n)]) hx hb d_MO_stock_28 hl (by decide) rfl (fun ls hl => ?_)
      refine lv_aload_n hx hb d_MO_stock_30 rfl (lv_at hl 2 rfl) ?_
      refine lv_iload_n hx hb d_MO_stock_31 rfl (lv_at hl 1 rfl) ?_
      refine lv_iload hx hb d_MO_stock_32 (lv_at hl 0 rfl) ?_
      refine lv_iload_n hx hb d_MO_stock_34 rfl (lv_at hl 1 rfl) ?_
      refine lv_if_ne (tgt := 61) hx hb d_MO_stock_35 (by decide) (fun c35 => ?_) (fun c35 => ?_)
      · exact absurd (by decide) c35
      · refine lv_iload hx hb d_MO_stock_38 (lv_at hl 0 rfl) ?_
        refine lv_if_ne (tgt := 61) hx hb d_MO_stock_40 (by decide) (fun c40 => ?_) (fun c40 => ?_)
        · refine lv_iconst (v := 0) hx hb d_MO_stock_61 (by decide) ?_
          refine lv_iconst (v := 0) hx hb d_MO_stock_62 (by decide) ?_
          obtain ⟨cB63, hcB63, hoB63, hkB63⟩ := xw_recv (r := 15) (i := 0) hK hX (by decide) rfl rfl
          refine xc_s (rest := []) (x_invV (argsL := [.int (0 : Int32), .int (1 : Int32), .int (0 : Int32), .int (0 : Int32)]) hx hb hown (hts _ w_671) (hts _ w_673) (hts _ w_20) (x_code (hts _ w_674)) ⟨by decide, by decide⟩ hcB63 hoB63 hkB63 rfl rfl rfl d_MO_stock_63) (c_MO_throwing h0 σ (0 : Int32) (1 : Int32) (0 : Int32) (0 : Int32)) (xs_cw h0 hW0 m_674) (hts _ w_38) ⟨rfl, rfl, Nat.le_of_ble_eq_true rfl, Nat.le_of_ble_eq_true rfl⟩ (hl.1.trans hml.symm) (by rw [hb]; exact d_MO_stock_63) (Nat.le_of_ble_eq_true rfl) ⟨Nat.le_of_ble_eq_true rfl, Nat.le_of_ble_eq_true rfl⟩ hX hW0 hS (fun v63 σ63 H locs hM63 hX hS => ?_) (fun E x H1 locs1 hM => by cases hM)
          obtain ⟨ev63, es63⟩ := x_inl hM63
          subst es63
          subst ev63
          refine lv_if_eq (tgt := 71) hx hb d_MO_stock_66 (by decide) (fun c66 => ?_) (fun c66 => ?_)
          · exact absurd c66 (thr_n2 (by decide))
          · refine lv_iconst (v := 0) hx hb d_MO_stock_69 (by decide) ?_
            subst hR
            refine W.widen (k := 0) (n := 0) (by decide) (by decide) ?_; exact xs_i hx hb hr hlocks hX hS d_MO_stock_70
        · exact absurd c40 (by decide)
  · rw [if_pos c4] at hR
    refine lv_iconst (v := 1) hx hb d_MO_stock_7 (by decide) ?_
    refine lv_goto (tgt := 12) hx hb d_MO_stock_8 (by decide) ?_
    refine lv_istore_n (lv' := [(3, .int (1 : Int32)), (0, .ref (xB s0 + XA 15 0)), (1, .int it), (2, .int n)]) hx hb d_MO_stock_12 rfl hl (by decide) rfl (fun ls hl => ?_)
    refine lv_iload_n hx hb d_MO_stock_13 rfl (lv_at hl 3 rfl) ?_
    refine lv_iconst (v := 1) hx hb d_MO_stock_14 (by decide) ?_
    refine lv_bipush (v := 99) hx hb d_MO_stock_15 (by decide) ?_
    refine xc_f (rest := []) (x_invS (argsL := [.int n, .int (1 : Int32), .int (99 : Int32)]) hx hb hown (hts _ w_664) (hts _ w_665) (hts _ w_38) (x_code (hts _ w_666)) ⟨by decide, by decide⟩ rfl rfl rfl d_MO_stock_17) (c_MO_in h0 σ n (1 : Int32) (99 : Int32)) (xs_cw h0 hW0 m_666) (hts _ w_38) ⟨rfl, rfl, Nat.le_of_ble_eq_true rfl, Nat.le_of_ble_eq_true rfl⟩ (hl.1.trans hml.symm) (by rw [hb]; exact d_MO_stock_17) (Nat.le_of_ble_eq_true rfl) ⟨Nat.le_of_ble_eq_true rfl, Nat.le_of_ble_eq_true rfl⟩ hX ⟨hW0, xo_S hS⟩ ?_
    refine lv_if_ne (tgt := 27) hx hb d_MO_stock_20 (by decide) (fun c20 => ?_) (fun c20 => ?_)
    · rw [if_neg c20] at hR
      refine lv_iconst (v := 0) hx hb d_MO_stock_27 (by decide) ?_
      refine lv_istore (lv' := [(4, .int (0 : Int32)), (3, .int (1 : Int32)), (0, .ref (xB s0 + XA 15 0)), (1, .int it), (2, .int n)]) hx hb d_MO_stock_28 hl (by decide) rfl (fun ls hl => ?_)
      refine lv_aload_n hx hb d_MO_stock_30 rfl (lv_at hl 2 rfl) ?_
      refine lv_iload_n hx hb d_MO_stock_31 rfl (lv_at hl 1 rfl) ?_
      refine lv_iload hx hb d_MO_stock_32 (lv_at hl 0 rfl) ?_
      refine lv_iload_n hx hb d_MO_stock_34 rfl (lv_at hl 1 rfl) ?_
      refine lv_if_ne (tgt := 61) hx hb d_MO_stock_35 (by decide) (fun c35 => ?_) (fun c35 => ?_)
      · refine lv_iconst (v := 0) hx hb d_MO_stock_61 (by decide) ?_
        refine lv_iconst (v := 0) hx hb d_MO_stock_62 (by decide) ?_
        obtain ⟨cB63, hcB63, hoB63, hkB63⟩ := xw_recv (r := 15) (i := 0) hK hX (by decide) rfl rfl
        refine xc_s (rest := []) (x_invV (argsL := [.int (1 : Int32), .int (0 : Int32), .int (0 : Int32), .int (0 : Int32)]) hx hb hown (hts _ w_671) (hts _ w_673) (hts _ w_20) (x_code (hts _ w_674)) ⟨by decide, by decide⟩ hcB63 hoB63 hkB63 rfl rfl rfl d_MO_stock_63) (c_MO_throwing h0 σ (1 : Int32) (0 : Int32) (0 : Int32) (0 : Int32)) (xs_cw h0 hW0 m_674) (hts _ w_38) ⟨rfl, rfl, Nat.le_of_ble_eq_true rfl, Nat.le_of_ble_eq_true rfl⟩ (hl.1.trans hml.symm) (by rw [hb]; exact d_MO_stock_63) (Nat.le_of_ble_eq_true rfl) ⟨Nat.le_of_ble_eq_true rfl, Nat.le_of_ble_eq_true rfl⟩ hX hW0 hS (fun v63 σ63 H locs hM63 hX hS => ?_) (fun E x H1 locs1 hM => by cases hM)
        obtain ⟨ev63, es63⟩ := x_inl hM63
        subst es63
        subst ev63
        refine lv_if_eq (tgt := 71) hx hb d_MO_stock_66 (by decide) (fun c66 => ?_) (fun c66 => ?_)
        · exact absurd c66 (thr_n1 (by decide))
        · refine lv_iconst (v := 0) hx hb d_MO_stock_69 (by decide) ?_
          subst hR
          refine W.widen (k := 0) (n := 0) (by decide) (by decide) ?_; exact xs_i hx hb hr hlocks hX hS d_MO_stock_70
      · exact absurd c35 (by decide)
    · rw [if_pos c20] at hR
      refine lv_iconst (v := 1) hx hb d_MO_stock_23 (by decide) ?_
      refine lv_goto (tgt := 28) hx hb d_MO_stock_24 (by decide) ?_
      refine lv_istore (lv' := [(4, .int (1 : Int32)), (3, .int (1 : Int32)), (0, .ref (xB s0 + XA 15 0)), (1, .int it), (2, .int n)]) hx hb d_MO_stock_28 hl (by decide) rfl (fun ls hl => ?_)
      refine lv_aload_n hx hb d_MO_stock_30 rfl (lv_at hl 2 rfl) ?_
      refine lv_iload_n hx hb d_MO_stock_31 rfl (lv_at hl 1 rfl) ?_
      refine lv_iload hx hb d_MO_stock_32 (lv_at hl 0 rfl) ?_
      refine lv_iload_n hx hb d_MO_stock_34 rfl (lv_at hl 1 rfl) ?_
      refine lv_if_ne (tgt := 61) hx hb d_MO_stock_35 (by decide) (fun c35 => ?_) (fun c35 => ?_)
      · refine lv_iconst (v := 0) hx hb d_MO_stock_61 (by decide) ?_
        refine lv_iconst (v := 0) hx hb d_MO_stock_62 (by decide) ?_
        obtain ⟨cB63, hcB63, hoB63, hkB63⟩ := xw_recv (r := 15) (i := 0) hK hX (by decide) rfl rfl
        refine xc_s (rest := []) (x_invV (argsL := [.int (1 : Int32), .int (1 : Int32), .int (0 : Int32), .int (0 : Int32)]) hx hb hown (hts _ w_671) (hts _ w_673) (hts _ w_20) (x_code (hts _ w_674)) ⟨by decide, by decide⟩ hcB63 hoB63 hkB63 rfl rfl rfl d_MO_stock_63) (c_MO_throwing h0 σ (1 : Int32) (1 : Int32) (0 : Int32) (0 : Int32)) (xs_cw h0 hW0 m_674) (hts _ w_38) ⟨rfl, rfl, Nat.le_of_ble_eq_true rfl, Nat.le_of_ble_eq_true rfl⟩ (hl.1.trans hml.symm) (by rw [hb]; exact d_MO_stock_63) (Nat.le_of_ble_eq_true rfl) ⟨Nat.le_of_ble_eq_true rfl, Nat.le_of_ble_eq_true rfl⟩ hX hW0 hS (fun v63 σ63 H locs hM63 hX hS => ?_) (fun E x H1 locs1 hM => by cases hM)
        obtain ⟨ev63, es63⟩ := x_inl hM63
        subst es63
        subst ev63
        refine lv_if_eq (tgt := 71) hx hb d_MO_stock_66 (by decide) (fun c66 => ?_) (fun c66 => ?_)
        · exact absurd c66 (thr_n1 (by decide))
        · refine lv_iconst (v := 0) hx hb d_MO_stock_69 (by decide) ?_
          subst hR
          refine W.widen (k := 0) (n := 0) (by decide) (by decide) ?_; exact xs_i hx hb hr hlocks hX hS d_MO_stock_70
      · exact absurd c35 (by decide)
