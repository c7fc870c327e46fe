abbrev rm_MO_isEmpty : Room := { frames := 0, cells := 0, slots := 0, locals := 0 }
def L_MO_isEmpty : Nat → XS → Int32 → Int32 → Int32 → Int32 → Int32
  | 0, _, _, _, _, _ => default
  | n + 1, σ, v, cu, em, x4 => (if (30 : Int32) ≤ x4 then em else (if em = 0 then (L_MO_isEmpty n σ v cu (0 : Int32) (x4 + 1)) else (if (σ.1 28 0 ((((240 : Int32) * v) + ((30 : Int32) * cu)) + x4).toNatClampNeg) = 0 then (L_MO_isEmpty n σ v cu (1 : Int32) (x4 + 1)) else (L_MO_isEmpty n σ v cu (0 : Int32) (x4 + 1)))))
def S_MO_isEmpty (σ : XS) (v : Int32) (cu : Int32) : Int32 := (L_MO_isEmpty 31 σ v cu (1 : Int32) (0 : Int32))
set_option maxHeartbeats 4000000 in
set_option maxRecDepth 100000 in
theorem l_MO_isEmpty {l : Launch} {s0 : State} {A0 : Array Value} {D : va_G} {dA : Nat → ClassId} (h0 : XS0 l s0 A0 D dA) {p : Program} {e : Env} {s : State} {m : MethodId} {args : Array Value} {below : List Frame} {meth : Method} {c : Code} (hx : p.tables.exec = Jvm.exec) (hb : c.code = b_MO_isEmpty) (hr : meth.sig.returnType = (some .boolean)) (hml : c.maxLocals = 5) (hown : s.vm.findClass "LoadChecksModel" = some m.cls) (hlocks : meth.locks = false) (hnt : c.exceptionTable.isEmpty = true) (hO : XO s0 s s.heap) :
    ∀ (n : Nat) (σ : XS) (v : Int32) (cu : Int32) (em : Int32) (x4 : Int32) (k : Nat), x4 = nI k → k + n = 31 → k < 31 → vp_in v 16 → vp_in cu 8 → nzb em → XWs D dA s0 σ s.heap → ∀ (ls : Array Slot), lv_has ls 5 [(0, .ref (xB s0 + XA 15 0)), (1, .int v), (2, .int cu), (3, .int em), (4, .int x4)] → ∀ res, L_MO_isEmpty n σ v cu em x4 = res →
    W p l e rm_MO_isEmpty s m args below meth c s.heap [] 0 0 (XMQ below (XQp xv_i (.inl res)) args s 0 0 (fun _ => False)) (F0 m 5 ls []) := by
  have hW0 := hO.1
  have hts := xs_w (args := args) h0 hW0
  have hK := xs_K h0 hW0
  intro n
  induction n with
  | zero =>
    intro σ v cu em x4 k e1 h2 h3
    exact absurd h2 (by omega)
  | succ n ih =>
    intro σ v cu em x4 k e_x4 hkn hkF hv hc hz hX ls hl res hR
    rw [L_MO_isEmpty] at hR
    refine lv_iload hx hb d_MO_isEmpty_5 (lv_at hl 4 rfl) ?_
    refine lv_bipush (v := 30) hx hb d_MO_isEmpty_7 (by decide) ?_
    refine lv_icmp_ge (tgt := 49) hx hb d_MO_isEmpty_9 (by decide) (fun c9 => ?_) (fun c9 => ?_)
    · rw [if_pos c9] at hR
      refine lv_iload_n hx hb d_MO_isEmpty_49 rfl (lv_at hl 3 rfl) ?_
      subst hR
      refine W.widen (k := 0) (n := 0) (by decide) (by decide) ?_; exact xr_z hx hb hr hlocks (by exact nz hz) d_MO_isEmpty_50
    · rw [if_neg c9] at hR
      have hq : k < 30 := x_klt (b := 30) rfl (by decide) (by omega) e_x4 c9
      have hkx : vp_in x4 30 := o_nI e_x4 hq (by decide)
      refine lv_iload_n hx hb d_MO_isEmpty_12 rfl (lv_at hl 3 rfl) ?_
      refine lv_if_eq (tgt := 41) hx hb d_MO_isEmpty_13 (by decide) (fun c13 => ?_) (fun c13 => ?_)
      · rw [if_pos c13] at hR
        refine lv_iconst (v := 0) hx hb d_MO_isEmpty_41 (by decide) ?_
        refine lv_istore_n (lv' := [(3, .int (0 : Int32)), (0, .ref (xB s0 + XA 15 0)), (1, .int v), (2, .int cu), (4, .int x4)]) hx hb d_MO_isEmpty_42 rfl hl (by decide) rfl (fun ls hl => ?_)
        refine lv_iinc (v := (x4 + 1)) (lv' := [(4, .int (x4 + 1)), (3, .int (0 : Int32)), (0, .ref (xB s0 + XA 15 0)), (1, .int v), (2, .int cu)]) hx hb d_MO_isEmpty_43 hl (k := 4) rfl rfl (by decide) rfl (fun ls hl => ?_)
        refine lv_goto (tgt := 5) hx hb d_MO_isEmpty_46 (by decide) ?_
        exact ih σ v cu (0 : Int32) (x4 + 1) (k + 1) (by rw [e_x4]; exact nI_1 k) (by omega) (by omega)  hv hc (by first | exact Or.inl rfl | exact Or.inr rfl) hX ls (lv_sub hl [2, 3, 4, 1, 0] rfl) res hR
      · rw [if_neg c13] at hR
        refine lv_aload_n hx hb d_MO_isEmpty_16 rfl (lv_at hl 0 rfl) ?_
        refine xw_get (C := R_MO) (T := F_MO) (N := 20) (r := 15) (i := 0) hx hb hts hi_MO hown hK hX (by decide) rfl rfl 16 (by decide) (hts _ w_611) rfl rfl d_MO_isEmpty_17 ?_
        refine lv_sipush (v := 240) hx hb d_MO_isEmpty_20 (by decide) ?_
        refine lv_iload_n hx hb d_MO_isEmpty_23 rfl (lv_at hl 1 rfl) ?_
        refine lv_imul hx hb d_MO_isEmpty_24 ?_
        refine lv_bipush (v := 30) hx hb d_MO_isEmpty_25 (by decide) ?_
        refine lv_iload_n hx hb d_MO_isEmpty_27 rfl (lv_at hl 2 rfl) ?_
        refine lv_imul hx hb d_MO_isEmpty_28 ?_
        refine lv_iadd hx hb d_MO_isEmpty_29 ?_
        refine lv_iload hx hb d_MO_isEmpty_30 (lv_at hl 4 rfl) ?_
        refine lv_iadd hx hb d_MO_isEmpty_32 ?_
        refine xw_iald (r := 28) (i := 0) hx hb hK hX (by decide) 0 rfl rfl (j := ((((240 : Int32) * v) + ((30 : Int32) * cu)) + x4)) (o_c3 hv hc hkx) d_MO_isEmpty_33 ?_
        refine lv_if_ne (tgt := 41) hx hb d_MO_isEmpty_34 (by decide) (fun c34 => ?_) (fun c34 => ?_)
        · rw [if_neg c34] at hR
          refine lv_iconst (v := 0) hx hb d_MO_isEmpty_41 (by decide) ?_
          refine lv_istore_n (lv' := [(3, .int (0 : Int32)), (0, .ref (xB s0 + XA 15 0)), (1, .int v), (2, .int cu), (4, .int x4)]) hx hb d_MO_isEmpty_42 rfl hl (by decide) rfl (fun ls hl => ?_)
          refine lv_iinc (v := (x4 + 1)) (lv' := [(4, .int (x4 + 1)), (3, .int (0 : Int32)), (0, .ref (xB s0 + XA 15 0)), (1, .int v), (2, .int cu)]) hx hb d_MO_isEmpty_43 hl (k := 4) rfl rfl (by decide) rfl (fun ls hl => ?_)
          refine lv_goto (tgt := 5) hx hb d_MO_isEmpty_46 (by decide) ?_
          exact ih σ v cu (0 : Int32) (x4 + 1) (k + 1) (by rw [e_x4]; exact nI_1 k) (by omega) (by omega)  hv hc (by first | exact Or.inl rfl | exact Or.inr rfl) hX ls (lv_sub hl [2, 3, 4, 1, 0] rfl) res hR
        · rw [if_pos c34] at hR
          refine lv_iconst (v := 1) hx hb d_MO_isEmpty_37 (by decide) ?_
          refine lv_goto (tgt := 42) hx hb d_MO_isEmpty_38 (by decide) ?_
          refine lv_istore_n (lv' := [(3, .int (1 : Int32)), (0, .ref (xB s0 + XA 15 0)), (1, .int v), (2, .int cu), (4, .int x4)]) hx hb d_MO_isEmpty_42 rfl hl (by decide) rfl (fun ls hl => ?_)
          refine lv_iinc (v := (x4 + 1)) (lv' := [(4, .int (x4 + 1)), (3, .int (1 : Int32)), (0, .ref (xB s0 + XA 15 0)), (1, .int v), (2, .int cu)]) hx hb d_MO_isEmpty_43 hl (k := 4) rfl rfl (by decide) rfl (fun ls hl => ?_)
          refine lv_goto (tgt := 5) hx hb d_MO_isEmpty_46 (by decide) ?_
          exact ih σ v cu (1 : Int32) (x4 + 1) (k + 1) (by rw [e_x4]; exact nI_1 k) (by omega) (by omega)  hv hc (by first | exact Or.inl rfl | exact Or.inr rfl) hX ls (lv_sub hl [2, 3, 4, 1, 0] rfl) res hR
set_option maxHeartbeats 4000000 in
set_option maxRecDepth 100000 in
theorem c_MO_isEmpty {l : Launch} {s0 : State} {A0 : Array Value} {D : va_G} {dA : Nat → ClassId} (h0 : XS0 l s0 A0 D dA) (σ : XS) (v : Int32) (cu : Int32) (hv : vp_in v 16) (hc : vp_in cu 8) : XMet l y_MO_isEmpty [cw_MO_isEmpty] rm_MO_isEmpty (XP D dA s0 σ [.ref (xB s0 + XA 15 0), .int v, .int cu]) (XQp xv_i (.inl (S_MO_isEmpty σ v cu))) 0 0 (fun _ => False) := by
  refine XMet.ofW (cc := b_MO_isEmpty) (maxL := 5) (ret := (some .boolean)) (by decide) rfl ?_
  intro p e s m args below meth c s₁ Bd hml hvA
  obtain ⟨rfl, hX, hO⟩ := hvA
  have hx := Bd.exec
  have hb := Bd.bytes
  have hr := Bd.returns
  have hown : s.vm.findClass "LoadChecksModel" = some m.cls := findClass_of_methodNamed Bd.named
  have hlocks := Bd.notSynchronized
  have hnt : c.exceptionTable.isEmpty = true := Bd.noHandlers (atoms_spec (ws := [cw_MO_isEmpty]) Bd.pre _ List.mem_cons_self)
  have hW0 := hO.1
  have hts := xs_w (args := ([.ref (xB s0 + XA 15 0), .int v, .int cu] : List Value).toArray) h0 hW0
  have hK := xs_K h0 hW0
  have hl := lv_entry ([.ref (xB s0 + XA 15 0), .int v, .int cu]) (n := 5) (Nat.le_of_ble_eq_true rfl)
  rw [lg_entry_eq]
  generalize (lg_sl ([.ref (xB s0 + XA 15 0), .int v, .int cu]) ++ List.replicate (5 - (lg_sl ([.ref (xB s0 + XA 15 0), .int v, .int cu])).length) Slot.unset).toArray = ls at hl ⊢
  have hl : lv_has ls 5 [(0, .ref (xB s0 + XA 15 0)), (1, .int v), (2, .int cu)] := hl
  generalize hR : S_MO_isEmpty σ v cu = res
  unfold S_MO_isEmpty at hR
  refine lv_iconst (v := 1) hx hb d_MO_isEmpty_0 (by decide) ?_
  refine lv_istore_n (lv' := [(3, .int (1 : Int32)), (0, .ref (xB s0 + XA 15 0)), (1, .int v), (2, .int cu)]) hx hb d_MO_isEmpty_1 rfl hl (by decide) rfl (fun ls hl => ?_)
  refine lv_iconst (v := 0) hx hb d_MO_isEmpty_2 (by decide) ?_
  refine lv_istore (lv' := [(4, .int (0 : Int32)), (3, .int (1 : Int32)), (0, .ref (xB s0 + XA 15 0)), (1, .int v), (2, .int cu)]) hx hb d_MO_isEmpty_3 hl (by decide) rfl (fun ls hl => ?_)
  exact l_MO_isEmpty h0 hx hb hr hml hown hlocks hnt hO 31 σ v cu (1 : Int32) (0 : Int32) 0 nI_0.symm rfl (by decide)  hv hc (Or.inr rfl) hX ls (lv_sub hl [2, 3, 4, 1, 0] rfl) res hR

abbrev rm_MO_isSomewhere : Room := { frames := 0, cells := 0, slots := 0, locals := 0 }
def L_MO_isSomewhere : Nat → XS → Int32 → Int32 → Int32 → Int32
  | 0, _, _, _, _ => default
  | n + 1, σ, it, em, x3 => (if (128 : Int32) ≤ x3 then em else (if em = 0 then (if (σ.1 28 0 (((30 : Int32) * x3) + it).toNatClampNeg) ≤ 0 then (L_MO_isSomewhere n σ it (0 : Int32) (x3 + 1)) else (L_MO_isSomewhere n σ it (1 : Int32) (x3 + 1))) else (L_MO_isSomewhere n σ it (1 : Int32) (x3 + 1))))
def S_MO_isSomewhere (σ : XS) (it : Int32) : Int32 := (if (σ.1 18 0 it.toNatClampNeg) ≤ 0 then (L_MO_isSomewhere 129 σ it (0 : Int32) (0 : Int32)) else (L_MO_isSomewhere 129 σ it (1 : Int32) (0 : Int32)))
set_option maxHeartbeats 4000000 in
set_option maxRecDepth 100000 in
theorem l_MO_isSomewhere {l : Launch} {s0 : State} {A0 : Array Value} {D : va_G} {dA : Nat → ClassId} (h0 : XS0 l s0 A0 D dA) {p : Program} {e : Env} {s : State} {m : MethodId} {args : Array Value} {below : List Frame} {meth : Method} {c : Code} (hx : p.tables.exec = Jvm.exec) (hb : c.code = b_MO_isSomewhere) (hr : meth.sig.returnType = (some .boolean)) (hml : c.maxLocals = 4) (hown : s.vm.findClass "LoadChecksModel" = some m.cls) (hlocks : meth.locks = false) (hnt : c.exceptionTable.isEmpty = true) (hO : XO s0 s s.heap) :
    ∀ (n : Nat) (σ : XS) (it : Int32) (em : Int32) (x3 : Int32) (k : Nat), x3 = nI k → k + n = 129 → k < 129 → vp_in it 30 → nzb em → XWs D dA s0 σ s.heap → ∀ (ls : Array Slot), lv_has ls 4 [(0, .ref (xB s0 + XA 15 0)), (1, .int it), (2, .int em), (3, .int x3)] → ∀ res, L_MO_isSomewhere n σ it em x3 = res →
    W p l e rm_MO_isSomewhere s m args below meth c s.heap [] 0 0 (XMQ below (XQp xv_i (.inl res)) args s 0 0 (fun _ => False)) (F0 m 17 ls []) := by
  have hW0 := hO.1
  have hts := xs_w (args := args) h0 hW0
  have hK := xs_K h0 hW0
  intro n
  induction n with
  | zero =>
    intro σ it em x3 k e1 h2 h3
    exact absurd h2 (by omega)
  | succ n ih =>
    intro σ it em x3 k e_x3 hkn hkF hi hz hX ls hl res hR
    rw [L_MO_isSomewhere] at hR
    refine lv_iload_n hx hb d_MO_isSomewhere_17 rfl (lv_at hl 3 rfl) ?_
    refine lv_sipush (v := 128) hx hb d_MO_isSomewhere_18 (by decide) ?_
    refine lv_icmp_ge (tgt := 54) hx hb d_MO_isSomewhere_21 (by decide) (fun c21 => ?_) (fun c21 => ?_)
    · rw [if_pos c21] at hR
      refine lv_iload_n hx hb d_MO_isSomewhere_54 rfl (lv_at hl 2 rfl) ?_
      subst hR
      refine W.widen (k := 0) (n := 0) (by decide) (by decide) ?_; exact xr_z hx hb hr hlocks (by exact nz hz) d_MO_isSomewhere_55
    · rw [if_neg c21] at hR
      have hq : k < 128 := x_klt (b := 128) rfl (by decide) (by omega) e_x3 c21
      have hkx : vp_in x3 128 := o_nI e_x3 hq (by decide)
      refine lv_iload_n hx hb d_MO_isSomewhere_24 rfl (lv_at hl 2 rfl) ?_
      refine lv_if_ne (tgt := 42) hx hb d_MO_isSomewhere_25 (by decide) (fun c25 => ?_) (fun c25 => ?_)
      · rw [if_neg c25] at hR
        refine lv_iconst (v := 1) hx hb d_MO_isSomewhere_42 (by decide) ?_
        refine lv_goto (tgt := 47) hx hb d_MO_isSomewhere_43 (by decide) ?_
        refine lv_istore_n (lv' := [(2, .int (1 : Int32)), (0, .ref (xB s0 + XA 15 0)), (1, .int it), (3, .int x3)]) hx hb d_MO_isSomewhere_47 rfl hl (by decide) rfl (fun ls hl => ?_)
        refine lv_iinc (v := (x3 + 1)) (lv' := [(3, .int (x3 + 1)), (2, .int (1 : Int32)), (0, .ref (xB s0 + XA 15 0)), (1, .int it)]) hx hb d_MO_isSomewhere_48 hl (k := 3) rfl rfl (by decide) rfl (fun ls hl => ?_)
        refine lv_goto (tgt := 17) hx hb d_MO_isSomewhere_51 (by decide) ?_
        exact ih σ it (1 : Int32) (x3 + 1) (k + 1) (by rw [e_x3]; exact nI_1 k) (by omega) (by omega)  hi (by first | exact Or.inl rfl | exact Or.inr rfl) hX ls (lv_sub hl [2, 3, 1, 0] rfl) res hR
      · rw [if_pos c25] at hR
        refine lv_aload_n hx hb d_MO_isSomewhere_28 rfl (lv_at hl 0 rfl) ?_
        refine xw_get (C := R_MO) (T := F_MO) (N := 20) (r := 15) (i := 0) hx hb hts hi_MO hown hK hX (by decide) rfl rfl 16 (by decide) (hts _ w_611) rfl rfl d_MO_isSomewhere_29 ?_
        refine lv_bipush (v := 30) hx hb d_MO_isSomewhere_32 (by decide) ?_
        refine lv_iload_n hx hb d_MO_isSomewhere_34 rfl (lv_at hl 3 rfl) ?_
        refine lv_imul hx hb d_MO_isSomewhere_35 ?_
        refine lv_iload_n hx hb d_MO_isSomewhere_36 rfl (lv_at hl 1 rfl) ?_
        refine lv_iadd hx hb d_MO_isSomewhere_37 ?_
        refine xw_iald (r := 28) (i := 0) hx hb hK hX (by decide) 0 rfl rfl (j := (((30 : Int32) * x3) + it)) (o_128 hkx hi) d_MO_isSomewhere_38 ?_
        refine lv_if_le (tgt := 46) hx hb d_MO_isSomewhere_39 (by decide) (fun c39 => ?_) (fun c39 => ?_)
        · rw [if_pos c39] at hR
          refine lv_iconst (v := 0) hx hb d_MO_isSomewhere_46 (by decide) ?_
          refine lv_istore_n (lv' := [(2, .int (0 : Int32)), (0, .ref (xB s0 + XA 15 0)), (1, .int it), (3, .int x3)]) hx hb d_MO_isSomewhere_47 rfl hl (by decide) rfl (fun ls hl => ?_)
          refine lv_iinc (v := (x3 + 1)) (lv' := [(3, .int (x3 + 1)), (2, .int (0 : Int32)), (0, .ref (xB s0 + XA 15 0)), (1, .int it)]) hx hb d_MO_isSomewhere_48 hl (k := 3) rfl rfl (by decide) rfl (fun ls hl => ?_)
          refine lv_goto (tgt := 17) hx hb d_MO_isSomewhere_51 (by decide) ?_
          exact ih σ it (0 : Int32) (x3 + 1) (k + 1) (by rw [e_x3]; exact nI_1 k) (by omega) (by omega)  hi (by first | exact Or.inl rfl | exact Or.inr rfl) hX ls (lv_sub hl [2, 3, 1, 0] rfl) res hR
        · rw [if_neg c39] at hR
          refine lv_iconst (v := 1) hx hb d_MO_isSomewhere_42 (by decide) ?_
          refine lv_goto (tgt := 47) hx hb d_MO_isSomewhere_43 (by decide) ?_
          refine lv_istore_n (lv' := [(2, .int (1 : Int32)), (0, .ref (xB s0 + XA 15 0)), (1, .int it), (3, .int x3)]) hx hb d_MO_isSomewhere_47 rfl hl (by decide) rfl (fun ls hl => ?_)
          refine lv_iinc (v := (x3 + 1)) (lv' := [(3, .int (x3 + 1)), (2, .int (1 : Int32)), (0, .ref (xB s0 + XA 15 0)), (1, .int it)]) hx hb d_MO_isSomewhere_48 hl (k := 3) rfl rfl (by decide) rfl (fun ls hl => ?_)
          refine lv_goto (tgt := 17) hx hb d_MO_isSomewhere_51 (by decide) ?_
          exact ih σ it (1 : Int32) (x3 + 1) (k + 1) (by rw [e_x3]; exact nI_1 k) (by omega) (by omega)  hi (by first | exact Or.inl rfl | exact Or.inr rfl) hX ls (lv_sub hl [2, 3, 1, 0] rfl) res hR
set_option maxHeartbeats 4000000 in
set_option maxRecDepth 100000 in
theorem c_MO_isSomewhere {l : Launch} {s0 : State} {A0 : Array Value} {D : va_G} {dA : Nat → ClassId} (h0 : XS0 l s0 A0 D dA) (σ : XS) (it : Int32) (hi : vp_in it 30) : XMet l y_MO_isSomewhere [cw_MO_isSomewhere] rm_MO_isSomewhere (XP D dA s0 σ [.ref (xB s0 + XA 15 0), .int it]) (XQp xv_i (.inl (S_MO_isSomewhere σ it))) 0 0 (fun _ => False) := by
  refine XMet.ofW (cc := b_MO_isSomewhere) (maxL := 4) (ret := (some .boolean)) (by decide) rfl ?_
  intro p e s m args below meth c s₁ Bd hml hvA
  obtain ⟨rfl, hX, hO⟩ := hvA
  have hx := Bd.exec
  have hb := Bd.bytes
  have hr := Bd.returns
  have hown : s.vm.findClass "LoadChecksModel" = some m.cls := findClass_of_methodNamed Bd.named
  have hlocks := Bd.notSynchronized
  have hnt : c.exceptionTable.isEmpty = true := Bd.noHandlers (atoms_spec (ws := [cw_MO_isSomewhere]) Bd.pre _ List.mem_cons_self)
  have hW0 := hO.1
  have hts := xs_w (args := ([.ref (xB s0 + XA 15 0), .int it] : List Value).toArray) h0 hW0
  have hK := xs_K h0 hW0
  have hl := lv_entry ([.ref (xB s0 + XA 15 0), .int it]) (n := 4) (Nat.le_of_ble_eq_true rfl)
  rw [lg_entry_eq]
  generalize (lg_sl ([.ref (xB s0 + XA 15 0), .int it]) ++ List.replicate (4 - (lg_sl ([.ref (xB s0 + XA 15 0), .int it])).length) Slot.unset).toArray = ls at hl ⊢
  have hl : lv_has ls 4 [(0, .ref (xB s0 + XA 15 0)), (1, .int it)] := hl
  generalize hR : S_MO_isSomewhere σ it = res
  unfold S_MO_isSomewhere at hR
  refine lv_aload_n hx hb d_MO_isSomewhere_0 rfl (lv_at hl 0 rfl) ?_
  refine xw_get (C := R_MO) (T := F_MO) (N := 20) (r := 15) (i := 0) hx hb hts hi_MO hown hK hX (by decide) rfl rfl 5 (by decide) (hts _ w_600) rfl rfl d_MO_isSomewhere_1 ?_
  refine lv_iload_n hx hb d_MO_isSomewhere_4 rfl (lv_at hl 1 rfl) ?_
  refine xw_iald (r := 18) (i := 0) hx hb hK hX (by decide) 0 rfl rfl (j := it) hi d_MO_isSomewhere_5 ?_
  refine lv_if_le (tgt := 13) hx hb d_MO_isSomewhere_6 (by decide) (fun c6 => ?_) (fun c6 => ?_)
  · rw [if_pos c6] at hR
    refine lv_iconst (v := 0) hx hb d_MO_isSomewhere_13 (by decide) ?_
    refine lv_istore_n (lv' := [(2, .int (0 : Int32)), (0, .ref (xB s0 + XA 15 0)), (1, .int it)]) hx hb d_MO_isSomewhere_14 rfl hl (by decide) rfl (fun ls hl => ?_)
    refine lv_iconst (v := 0) hx hb d_MO_isSomewhere_15 (by decide) ?_
    refine lv_istore_n (lv' := [(3, .int (0 : Int32)), (2, .int (0 : Int32)), (0, .ref (xB s0 + XA 15 0)), (1, .int it)]) hx hb d_MO_isSomewhere_16 rfl hl (by decide) rfl (fun ls hl => ?_)
    exact l_MO_isSomewhere h0 hx hb hr hml hown hlocks hnt hO 129 σ it (0 : Int32) (0 : Int32) 0 nI_0.symm rfl (by decide)  hi (by first | exact Or.inl rfl | exact Or.inr rfl) hX ls (lv_sub hl [2, 3, 1, 0] rfl) res hR
  · rw [if_neg c6] at hR
    refine lv_iconst (v := 1) hx hb d_MO_isSomewhere_9 (by decide) ?_
    refine lv_goto (tgt := 14) hx hb d_MO_isSomewhere_10 (by decide) ?_
    refine lv_istore_n (lv' := [(2, .int (1 : Int32)), (0, .ref (xB s0 + XA 15 0)), (1, .int it)]) hx hb d_MO_isSomewhere_14 rfl hl (by decide) rfl (fun ls hl => ?_)
    refine lv_iconst (v := 0) hx hb d_MO_isSomewhere_15 (by decide) ?_
    refine lv_istore_n (lv' := [(3, .int (0 : Int32)), (2, .int (1 : Int32)), (0, .ref (xB s0 + XA 15 0)), (1, .int it)]) hx hb d_MO_isSomewhere_16 rfl hl (by decide) rfl (fun ls hl => ?_)
    exact l_MO_isSomewhere h0 hx hb hr hml hown hlocks hnt hO 129 σ it (1 : Int32) (0 : Int32) 0 nI_0.symm rfl (by decide)  hi (by first | exact Or.inl rfl | exact Or.inr rfl) hX ls (lv_sub hl [2, 3, 1, 0] rfl) res hR

abbrev rm_MO_sumOf : Room := { frames := 0, cells := 0, slots := 0, locals := 0 }
def L_MO_sumOf : Nat → XS → Int32 → Int64 → Int32 → Int64
  | 0, _, _, _, _ => default
  | n + 1, σ, v, sm, x4 => (if (240 : Int32) ≤ x4 then sm else (L_MO_sumOf n σ v (sm + ((σ.1 16 0 (x4 - x4 / (30 : Int32) * (30 : Int32)).toNatClampNeg).toInt64 * (σ.1 28 0 (((240 : Int32) * v) + x4).toNatClampNeg).toInt64)) (x4 + 1)))
def S_MO_sumOf (σ : XS) (v : Int32) : Int64 := (L_MO_sumOf 241 σ v (0 : Int64) (0 : Int32))
set_option maxHeartbeats 4000000 in
set_option maxRecDepth 100000 in
theorem l_MO_sumOf {l : Launch} {s0 : State} {A0 : Array Value} {D : va_G} {dA : Nat → ClassId} (h0 : XS0 l s0 A0 D dA) {p : Program} {e : Env} {s : State} {m : MethodId} {args : Array Value} {below : List Frame} {meth : Method} {c : Code} (hx : p.tables.exec = Jvm.exec) (hb : c.code = b_MO_sumOf) (hr : meth.sig.returnType = (some .long)) (hml : c.maxLocals = 5) (hown : s.vm.findClass "LoadChecksModel" = some m.cls) (hlocks : meth.locks = false) (hnt : c.exceptionTable.isEmpty = true) (hO : XO s0 s s.heap) :
    ∀ (n : Nat) (σ : XS) (v : Int32) (sm : Int64) (x4 : Int32) (k : Nat), x4 = nI k → k + n = 241 → k < 241 → vp_in v 16 → XWs D dA s0 σ s.heap → ∀ (ls : Array Slot), lv_has ls 5 [(0, .ref (xB s0 + XA 15 0)), (1, .int v), (2, .long sm), (4, .int x4)] → ∀ res, L_MO_sumOf n σ v sm x4 = res →
    W p l e rm_MO_sumOf s m args below meth c s.heap [] 0 0 (XMQ below (XQp xv_l (.inl res)) args s 0 0 (fun _ => False)) (F0 m 5 ls []) := by
  have hW0 := hO.1
  have hts := xs_w (args := args) h0 hW0
  have hK := xs_K h0 hW0
  intro n
  induction n with
  | zero =>
    intro σ v sm x4 k e1 h2 h3
    exact absurd h2 (by omega)
  | succ n ih =>
    intro σ v sm x4 k e_x4 hkn hkF hv hX ls hl res hR
    rw [L_MO_sumOf] at hR
    refine lv_iload hx hb d_MO_sumOf_5 (lv_at hl 3 rfl) ?_
    refine lv_sipush (v := 240) hx hb d_MO_sumOf_7 (by decide) ?_
    refine lv_icmp_ge (tgt := 48) hx hb d_MO_sumOf_10 (by decide) (fun c10 => ?_) (fun c10 => ?_)
    · rw [if_pos c10] at hR
      refine lv_lload_n hx hb d_MO_sumOf_48 rfl (lv_at hl 2 rfl) ?_
      subst hR
      refine W.widen (k := 0) (n := 0) (by decide) (by decide) ?_; exact xr_l hx hb hr hlocks d_MO_sumOf_49
    · rw [if_neg c10] at hR
      have hq : k < 240 := x_klt (b := 240) rfl (by decide) (by omega) e_x4 c10
      have hkx : vp_in x4 240 := o_nI e_x4 hq (by decide)
      refine lv_lload_n hx hb d_MO_sumOf_13 rfl (lv_at hl 2 rfl) ?_
      refine lv_aload_n hx hb d_MO_sumOf_14 rfl (lv_at hl 0 rfl) ?_
      refine xw_get (C := R_MO) (T := F_MO) (N := 20) (r := 15) (i := 0) hx hb hts hi_MO hown hK hX (by decide) rfl rfl 3 (by decide) (hts _ w_598) rfl rfl d_MO_sumOf_15 ?_
      refine lv_iload hx hb d_MO_sumOf_18 (lv_at hl 3 rfl) ?_
      refine lv_bipush (v := 30) hx hb d_MO_sumOf_20 (by decide) ?_
      refine lv_irem hx hb d_MO_sumOf_22 (by decide) ?_
      refine xw_iald (r := 16) (i := 0) hx hb hK hX (by decide) 0 rfl rfl (j := (x4 - x4 / (30 : Int32) * (30 : Int32))) (o_rem hkx) d_MO_sumOf_23 ?_
      refine lv_i2l hx hb d_MO_sumOf_24 rfl ?_
      refine lv_aload_n hx hb d_MO_sumOf_25 rfl (lv_at hl 0 rfl) ?_
      refine xw_get (C := R_MO) (T := F_MO) (N := 20) (r := 15) (i := 0) hx hb hts hi_MO hown hK hX (by decide) rfl rfl 16 (by decide) (hts _ w_611) rfl rfl d_MO_sumOf_26 ?_
      refine lv_sipush (v := 240) hx hb d_MO_sumOf_29 (by decide) ?_
      refine lv_iload_n hx hb d_MO_sumOf_32 rfl (lv_at hl 1 rfl) ?_
      refine lv_imul hx hb d_MO_sumOf_33 ?_
      refine lv_iload hx hb d_MO_sumOf_34 (lv_at hl 3 rfl) ?_
      refine lv_iadd hx hb d_MO_sumOf_36 ?_
      refine xw_iald (r := 28) (i := 0) hx hb hK hX (by decide) 0 rfl rfl (j := (((240 : Int32) * v) + x4)) (o_c2 hv hkx) d_MO_sumOf_37 ?_
      refine lv_i2l hx hb d_MO_sumOf_38 rfl ?_
      refine lv_lmul hx hb d_MO_sumOf_39 ?_
      refine lv_ladd hx hb d_MO_sumOf_40 ?_
      refine lv_lstore_n (lv' := [(2, .long (sm + ((σ.1 16 0 (x4 - x4 / (30 : Int32) * (30 : Int32)).toNatClampNeg).toInt64 * (σ.1 28 0 (((240 : Int32) * v) + x4).toNatClampNeg).toInt64))), (0, .ref (xB s0 + XA 15 0)), (1, .int v), (4, .int x4)]) hx hb d_MO_sumOf_41 rfl hl (by decide) rfl (fun ls hl => ?_)
      refine lv_iinc (v := (x4 + 1)) (lv' := [(4, .int (x4 + 1)), (2, .long (sm + ((σ.1 16 0 (x4 - x4 / (30 : Int32) * (30 : Int32)).toNatClampNeg).toInt64 * (σ.1 28 0 (((240 : Int32) * v) + x4).toNatClampNeg).toInt64))), (0, .ref (xB s0 + XA 15 0)), (1, .int v)]) hx hb d_MO_sumOf_42 hl (k := 3) rfl rfl (by decide) rfl (fun ls hl => ?_)
      refine lv_goto (tgt := 5) hx hb d_MO_sumOf_45 (by decide) ?_
      exact ih σ v (sm + ((σ.1 16 0 (x4 - x4 / (30 : Int32) * (30 : Int32)).toNatClampNeg).toInt64 * (σ.1 28 0 (((240 : Int32) * v) + x4).toNatClampNeg).toInt64)) (x4 + 1) (k + 1) (by rw [e_x4]; exact nI_1 k) (by omega) (by omega)  hv hX ls (lv_sub hl [2, 3, 1, 0] rfl) res hR
set_option maxHeartbeats 4000000 in
set_option maxRecDepth 100000 in
theorem c_MO_sumOf {l : Launch} {s0 : State} {A0 : Array Value} {D : va_G} {dA : Nat → ClassId} (h0 : XS0 l s0 A0 D dA) (σ : XS) (v : Int32) (hv : vp_in v 16) : XMet l y_MO_sumOf [cw_MO_sumOf] rm_MO_sumOf (XP D dA s0 σ [.ref (xB s0 + XA 15 0), .int v]) (XQp xv_l (.inl (S_MO_sumOf σ v))) 0 0 (fun _ => False) := by
  refine XMet.ofW (cc := b_MO_sumOf) (maxL := 5) (ret := (some .long)) (by decide) rfl ?_
  intro p e s m args below meth c s₁ Bd hml hvA
  obtain ⟨rfl, hX, hO⟩ := hvA
  have hx := Bd.exec
  have hb := Bd.bytes
  have hr := Bd.returns
  have hown : s.vm.findClass "LoadChecksModel" = some m.cls := findClass_of_methodNamed Bd.named
  have hlocks := Bd.notSynchronized
  have hnt : c.exceptionTable.isEmpty = true := Bd.noHandlers (atoms_spec (ws := [cw_MO_sumOf]) Bd.pre _ List.mem_cons_self)
  have hW0 := hO.1
  have hts := xs_w (args := ([.ref (xB s0 + XA 15 0), .int v] : List Value).toArray) h0 hW0
  have hK := xs_K h0 hW0
  have hl := lv_entry ([.ref (xB s0 + XA 15 0), .int v]) (n := 5) (Nat.le_of_ble_eq_true rfl)
  rw [lg_entry_eq]
  generalize (lg_sl ([.ref (xB s0 + XA 15 0), .int v]) ++ List.replicate (5 - (lg_sl ([.ref (xB s0 + XA 15 0), .int v])).length) Slot.unset).toArray = ls at hl ⊢
  have hl : lv_has ls 5 [(0, .ref (xB s0 + XA 15 0)), (1, .int v)] := hl
  generalize hR : S_MO_sumOf σ v = res
  unfold S_MO_sumOf at hR
  refine lv_lconst (v := 0) hx hb d_MO_sumOf_0 (by decide) ?_
  refine lv_lstore_n (lv' := [(2, .long (0 : Int64)), (0, .ref (xB s0 + XA 15 0)), (1, .int v)]) hx hb d_MO_sumOf_1 rfl hl (by decide) rfl (fun ls hl => ?_)
  refine lv_iconst (v := 0) hx hb d_MO_sumOf_2 (by decide) ?_
  refine lv_istore (lv' := [(4, .int (0 : Int32)), (2, .long (0 : Int64)), (0, .ref (xB s0 + XA 15 0)), (1, .int v)]) hx hb d_MO_sumOf_3 hl (by decide) rfl (fun ls hl => ?_)
  exact l_MO_sumOf h0 hx hb hr hml hown hlocks hnt hO 241 σ v (0 : Int64) (0 : Int32) 0 nI_0.symm rfl (by decide)  hv hX ls (lv_sub hl [2, 3, 1, 0] rfl) res hR

abbrev rm_MO_momentOf : Room := { frames := 0, cells := 0, slots := 0, locals := 0 }
def L_MO_momentOf : Nat → XS → Int32 → Int64 → Int32 → Int64
  | 0, _, _, _, _ => default
  | n + 1, σ, v, sm, x4 => (if (240 : Int32) ≤ x4 then sm else (L_MO_momentOf n σ v (sm + (((σ.1 16 0 (x4 - x4 / (30 : Int32) * (30 : Int32)).toNatClampNeg).toInt64 * (σ.1 28 0 (((240 : Int32) * v) + x4).toNatClampNeg).toInt64) * (σ.1 24 0 (((8 : Int32) * v) + (x4 / (30 : Int32))).toNatClampNeg).toInt64)) (x4 + 1)))
def S_MO_momentOf (σ : XS) (v : Int32) : Int64 := (L_MO_momentOf 241 σ v (0 : Int64) (0 : Int32))
set_option maxHeartbeats 4000000 in
set_option maxRecDepth 100000 in
theorem l_MO_momentOf {l : Launch} {s0 : State} {A0 : Array Value} {D : va_G} {dA : Nat → ClassId} (h0 : XS0 l s0 A0 D dA) {p : Program} {e : Env} {s : State} {m : MethodId} {args : Array Value} {below : List Frame} {meth : Method} {c : Code} (hx : p.tables.exec = Jvm.exec) (hb : c.code = b_MO_momentOf) (hr : meth.sig.returnType = (some .long)) (hml : c.maxLocals = 5) (hown : s.vm.findClass "LoadChecksModel" = some m.cls) (hlocks : meth.locks = false) (hnt : c.exceptionTable.isEmpty = true) (hO : XO s0 s s.heap) :
    ∀ (n : Nat) (σ : XS) (v : Int32) (sm : Int64) (x4 : Int32) (k : Nat), x4 = nI k → k + n = 241 → k < 241 → vp_in v 16 → XWs D dA s0 σ s.heap → ∀ (ls : Array Slot), lv_has ls 5 [(0, .ref (xB s0 + XA 15 0)), (1, .int v), (2, .long sm), (4, .int x4)] → ∀ res, L_MO_momentOf n σ v sm x4 = res →
    W p l e rm_MO_momentOf s m args below meth c s.heap [] 0 0 (XMQ below (XQp xv_l (.inl res)) args s 0 0 (fun _ => False)) (F0 m 5 ls []) := by
  have hW0 := hO.1
  have hts := xs_w (args := args) h0 hW0
  have hK := xs_K h0 hW0
  intro n
  induction n with
  | zero =>
    intro σ v sm x4 k e1 h2 h3
    exact absurd h2 (by omega)
  | succ n ih =>
    intro σ v sm x4 k e_x4 hkn hkF hv hX ls hl res hR
    rw [L_MO_momentOf] at hR
    refine lv_iload hx hb d_MO_momentOf_5 (lv_at hl 3 rfl) ?_
    refine lv_sipush (v := 240) hx hb d_MO_momentOf_7 (by decide) ?_
    refine lv_icmp_ge (tgt := 65) hx hb d_MO_momentOf_10 (by decide) (fun c10 => ?_) (fun c10 => ?_)
    · rw [if_pos c10] at hR
      refine lv_lload_n hx hb d_MO_momentOf_65 rfl (lv_at hl 2 rfl) ?_
      subst hR
      refine W.widen (k := 0) (n := 0) (by decide) (by decide) ?_; exact xr_l hx hb hr hlocks d_MO_momentOf_66
    · rw [if_neg c10] at hR
      have hq : k < 240 := x_klt (b := 240) rfl (by decide) (by omega) e_x4 c10
      have hkx : vp_in x4 240 := o_nI e_x4 hq (by decide)
      refine lv_lload_n hx hb d_MO_momentOf_13 rfl (lv_at hl 2 rfl) ?_
      refine lv_aload_n hx hb d_MO_momentOf_14 rfl (lv_at hl 0 rfl) ?_
      refine xw_get (C := R_MO) (T := F_MO) (N := 20) (r := 15) (i := 0) hx hb hts hi_MO hown hK hX (by decide) rfl rfl 3 (by decide) (hts _ w_598) rfl rfl d_MO_momentOf_15 ?_
      refine lv_iload hx hb d_MO_momentOf_18 (lv_at hl 3 rfl) ?_
      refine lv_bipush (v := 30) hx hb d_MO_momentOf_20 (by decide) ?_
      refine lv_irem hx hb d_MO_momentOf_22 (by decide) ?_
      refine xw_iald (r := 16) (i := 0) hx hb hK hX (by decide) 0 rfl rfl (j := (x4 - x4 / (30 : Int32) * (30 : Int32))) (o_rem hkx) d_MO_momentOf_23 ?_
      refine lv_i2l hx hb d_MO_momentOf_24 rfl ?_
      refine lv_aload_n hx hb d_MO_momentOf_25 rfl (lv_at hl 0 rfl) ?_
      refine xw_get (C := R_MO) (T := F_MO) (N := 20) (r := 15) (i := 0) hx hb hts hi_MO hown hK hX (by decide) rfl rfl 16 (by decide) (hts _ w_611) rfl rfl d_MO_momentOf_26 ?_
      refine lv_sipush (v := 240) hx hb d_MO_momentOf_29 (by decide) ?_
      refine lv_iload_n hx hb d_MO_momentOf_32 rfl (lv_at hl 1 rfl) ?_
      refine lv_imul hx hb d_MO_momentOf_33 ?_
      refine lv_iload hx hb d_MO_momentOf_34 (lv_at hl 3 rfl) ?_
      refine lv_iadd hx hb d_MO_momentOf_36 ?_
      refine xw_iald (r := 28) (i := 0) hx hb hK hX (by decide) 0 rfl rfl (j := (((240 : Int32) * v) + x4)) (o_c2 hv hkx) d_MO_momentOf_37 ?_
      refine lv_i2l hx hb d_MO_momentOf_38 rfl ?_
      refine lv_lmul hx hb d_MO_momentOf_39 ?_
      refine lv_aload_n hx hb d_MO_momentOf_40 rfl (lv_at hl 0 rfl) ?_
      refine xw_get (C := R_MO) (T := F_MO) (N := 20) (r := 15) (i := 0) hx hb hts hi_MO hown hK hX (by decide) rfl rfl 12 (by decide) (hts _ w_607) rfl rfl d_MO_momentOf_41 ?_
      refine lv_bipush (v := 8) hx hb d_MO_momentOf_44 (by decide) ?_
      refine lv_iload_n hx hb d_MO_momentOf_46 rfl (lv_at hl 1 rfl) ?_
      refine lv_imul hx hb d_MO_momentOf_47 ?_
      refine lv_iload hx hb d_MO_momentOf_48 (lv_at hl 3 rfl) ?_
      refine lv_bipush (v := 30) hx hb d_MO_momentOf_50 (by decide) ?_
      refine lv_idiv hx hb d_MO_momentOf_52 (by decide) ?_
      refine lv_iadd hx hb d_MO_momentOf_53 ?_
      refine xw_iald (r := 24) (i := 0) hx hb hK hX (by decide) 0 rfl rfl (j := (((8 : Int32) * v) + (x4 / (30 : Int32)))) (o_8 hv (o_div hkx)) d_MO_momentOf_54 ?_
      refine lv_i2l hx hb d_MO_momentOf_55 rfl ?_
      refine lv_lmul hx hb d_MO_momentOf_56 ?_
      refine lv_ladd hx hb d_MO_momentOf_57 ?_
      refine lv_lstore_n (lv' := [(2, .long (sm + (((σ.1 16 0 (x4 - x4 / (30 : Int32) * (30 : Int32)).toNatClampNeg).toInt64 * (σ.1 28 0 (((240 : Int32) * v) + x4).toNatClampNeg).toInt64) * (σ.1 24 0 (((8 : Int32) * v) + (x4 / (30 : Int32))).toNatClampNeg).toInt64))), (0, .ref (xB s0 + XA 15 0)), (1, .int v), (4, .int x4)]) hx hb d_MO_momentOf_58 rfl hl (by decide) rfl (fun ls hl => ?_)
      refine lv_iinc (v := (x4 + 1)) (lv' := [(4, .int (x4 + 1)), (2, .long (sm + (((σ.1 16 0 (x4 - x4 / (30 : Int32) * (30 : Int32)).toNatClampNeg).toInt64 * (σ.1 28 0 (((240 : Int32) * v) + x4).toNatClampNeg).toInt64) * (σ.1 24 0 (((8 : Int32) * v) + (x4 / (30 : Int32))).toNatClampNeg).toInt64))), (0, .ref (xB s0 + XA 15 0)), (1, .int v)]) hx hb d_MO_momentOf_59 hl (k := 3) rfl rfl (by decide) rfl (fun ls hl => ?_)
      refine lv_goto (tgt := 5) hx hb d_MO_momentOf_62 (by decide) ?_
      exact ih σ v (sm + (((σ.1 16 0 (x4 - x4 / (30 : Int32) * (30 : Int32)).toNatClampNeg).toInt64 * (σ.1 28 0 (((240 : Int32) * v) + x4).toNatClampNeg).toInt64) * (σ.1 24 0 (((8 : Int32) * v) + (x4 / (30 : Int32))).toNatClampNeg).toInt64)) (x4 + 1) (k + 1) (by rw [e_x4]; exact nI_1 k) (by omega) (by omega)  hv hX ls (lv_sub hl [2, 3, 1, 0] rfl) res hR
set_option maxHeartbeats 4000000 in
set_option maxRecDepth 100000 in
theorem c_MO_momentOf {l : Launch} {s0 : State} {A0 : Array Value} {D : va_G} {dA : Nat → ClassId} (h0 : XS0 l s0 A0 D dA) (σ : XS) (v : Int32) (hv : vp_in v 16) : XMet l y_MO_momentOf [cw_MO_momentOf] rm_MO_momentOf (XP D dA s0 σ [.ref (xB s0 + XA 15 0), .int v]) (XQp xv_l (.inl (S_MO_momentOf σ v))) 0 0 (fun _ => False) := by
  refine XMet.ofW (cc := b_MO_momentOf) (maxL := 5) (ret := (some .long)) (by decide) rfl ?_
  intro p e s m args below meth c s₁ Bd hml hvA
  obtain ⟨rfl, hX, hO⟩ := hvA
  have hx := Bd.exec
  have hb := Bd.bytes
  have hr := Bd.returns
  have hown : s.vm.findClass "LoadChecksModel" = some m.cls := findClass_of_methodNamed Bd.named
  have hlocks := Bd.notSynchronized
  have hnt : c.exceptionTable.isEmpty = true := Bd.noHandlers (atoms_spec (ws := [cw_MO_momentOf]) Bd.pre _ List.mem_cons_self)
  have hW0 := hO.1
  have hts := xs_w (args := ([.ref (xB s0 + XA 15 0), .int v] : List Value).toArray) h0 hW0
  have hK := xs_K h0 hW0
  have hl := lv_entry ([.ref (xB s0 + XA 15 0), .int v]) (n := 5) (Nat.le_of_ble_eq_true rfl)
  rw [lg_entry_eq]
  generalize (lg_sl ([.ref (xB s0 + XA 15 0), .int v]) ++ List.replicate (5 - (lg_sl ([.ref (xB s0 + XA 15 0), .int v])).length) Slot.unset).toArray = ls at hl ⊢
  have hl : lv_has ls 5 [(0, .ref (xB s0 + XA 15 0)), (1, .int v)] := hl
  generalize hR : S_MO_momentOf σ v = res
  unfold S_MO_momentOf at hR
  refine lv_lconst (v := 0) hx hb d_MO_momentOf_0 (by decide) ?_
  refine lv_lstore_n (lv' := [(2, .long (0 : Int64)), (0, .ref (xB s0 + XA 15 0)), (1, .int v)]) hx hb d_MO_momentOf_1 rfl hl (by decide) rfl (fun ls hl => ?_)
  refine lv_iconst (v := 0) hx hb d_MO_momentOf_2 (by decide) ?_
  refine lv_istore (lv' := [(4, .int (0 : Int32)), (2, .long (0 : Int64)), (0, .ref (xB s0 + XA 15 0)), (1, .int v)]) hx hb d_MO_momentOf_3 hl (by decide) rfl (fun ls hl => ?_)
  exact l_MO_momentOf h0 hx hb hr hml hown hlocks hnt hO 241 σ v (0 : Int64) (0 : Int32) 0 nI_0.symm rfl (by decide)  hv hX ls (lv_sub hl [2, 3, 1, 0] rfl) res hR

abbrev rm_MO_bears : Room := { frames := 1, cells := 0, slots := 0, locals := 24 }
def S_MO_bears (σ : XS) (v : Int32) (re : Int32) : Int64 := (if re = 0 then (((S_MO_sumOf σ v) * (σ.1 20 0 v.toNatClampNeg).toInt64) - (S_MO_momentOf σ v)) else (S_MO_momentOf σ v))
set_option maxHeartbeats 4000000 in
set_option maxRecDepth 100000 in
theorem c_MO_bears {l : Launch} {s0 : State} {A0 : Array Value} {D : va_G} {dA : Nat → ClassId} (h0 : XS0 l s0 A0 D dA) (σ : XS) (v : Int32) (re : Int32) (hv : vp_in v 16) : XMet l y_MO_bears [cw_MO_bears] rm_MO_bears (XP D dA s0 σ [.ref (xB s0 + XA 15 0), .int v, .int re]) (XQp xv_l (.inl (S_MO_bears σ v re))) 0 0 (fun _ => False) := by
  refine XMet.ofW (cc := b_MO_bears) (maxL := 3) (ret := (some .long)) (by decide) rfl ?_
  intro p e s m args below meth c s₁ Bd hml hvA
  obtain ⟨rfl, hX, hO⟩ := hvA
  have hx := Bd.exec
  have hb := Bd.bytes
  have hr := Bd.returns
  have hown : s.vm.findClass "LoadChecksModel" = some m.cls := findClass_of_methodNamed Bd.named
  have hlocks := Bd.notSynchronized
  have hnt : c.exceptionTable.isEmpty = true := Bd.noHandlers (atoms_spec (ws := [cw_MO_bears]) Bd.pre _ List.mem_cons_self)
  have hW0 := hO.1
  have hts := xs_w (args := ([.ref (xB s0 + XA 15 0), .int v, .int re] : List Value).toArray) h0 hW0
  have hK := xs_K h0 hW0
  have hl := lv_entry ([.ref (xB s0 + XA 15 0), .int v, .int re]) (n := 3) (Nat.le_of_ble_eq_true rfl)
  rw [lg_entry_eq]
  generalize (lg_sl ([.ref (xB s0 + XA 15 0), .int v, .int re]) ++ List.replicate (3 - (lg_sl ([.ref (xB s0 + XA 15 0), .int v, .int re])).length) Slot.unset).toArray = ls at hl ⊢
  have hl : lv_has ls 3 [(0, .ref (xB s0 + XA 15 0)), (1, .int v), (2, .int re)] := hl
  generalize hR : S_MO_bears σ v re = res
  unfold S_MO_bears at hR
  refine lv_iload_n hx hb d_MO_bears_0 rfl (lv_at hl 2 rfl) ?_
  refine lv_if_eq (tgt := 12) hx hb d_MO_bears_1 (by decide) (fun c1 => ?_) (fun c1 => ?_)
  · rw [if_pos c1] at hR
    refine lv_aload_n hx hb d_MO_bears_12 rfl (lv_at hl 0 rfl) ?_
    refine lv_iload_n hx hb d_MO_bears_13 rfl (lv_at hl 1 rfl) ?_
    obtain ⟨cB14, hcB14, hoB14, hkB14⟩ := xw_recv (r := 15) (i := 0) hK hX (by decide) rfl rfl
    refine xc_f (rest := []) (x_invV (argsL := [.int v]) hx hb hown (hts _ w_734) (hts _ w_736) (hts _ w_28) (x_code (hts _ w_737)) ⟨by decide, by decide⟩ hcB14 hoB14 hkB14 rfl rfl rfl d_MO_bears_14) (c_MO_sumOf h0 σ v hv) (xs_cw h0 hW0 m_737) (hts _ w_38) ⟨rfl, rfl, Nat.le_of_ble_eq_true rfl, Nat.le_of_ble_eq_true rfl⟩ (hl.1.trans hml.symm) (by rw [hb]; exact d_MO_bears_14) (Nat.le_of_ble_eq_true rfl) ⟨Nat.le_of_ble_eq_true rfl, Nat.le_of_ble_eq_true rfl⟩ hX hO ?_
    refine lv_aload_n hx hb d_MO_bears_17 rfl (lv_at hl 0 rfl) ?_
    refine xw_get (C := R_MO) (T := F_MO) (N := 20) (r := 15) (i := 0) hx hb hts hi_MO hown hK hX (by decide) rfl rfl 8 (by decide) (hts _ w_603) rfl rfl d_MO_bears_18 ?_
    refine lv_iload_n hx hb d_MO_bears_21 rfl (lv_at hl 1 rfl) ?_
    refine xw_iald (r := 20) (i := 0) hx hb hK hX (by decide) 0 rfl rfl (j := v) hv d_MO_bears_22 ?_
    refine lv_i2l hx hb d_MO_bears_23 rfl ?_
    refine lv_lmul hx hb d_MO_bears_24 ?_
    refine lv_aload_n hx hb d_MO_bears_25 rfl (lv_at hl 0 rfl) ?_
    refine lv_iload_n hx hb d_MO_bears_26 rfl (lv_at hl 1 rfl) ?_
    obtain ⟨cB27, hcB27, hoB27, hkB27⟩ := xw_recv (r := 15) (i := 0) hK hX (by decide) rfl rfl
    refine xc_f (rest := [.long ((S_MO_sumOf σ v) * (σ.1 20 0 v.toNatClampNeg).toInt64)]) (x_invV (argsL := [.int v]) hx hb hown (hts _ w_730) (hts _ w_732) (hts _ w_27) (x_code (hts _ w_733)) ⟨by decide, by decide⟩ hcB27 hoB27 hkB27 rfl rfl rfl d_MO_bears_27) (c_MO_momentOf h0 σ v hv) (xs_cw h0 hW0 m_733) (hts _ w_38) ⟨rfl, rfl, Nat.le_of_ble_eq_true rfl, Nat.le_of_ble_eq_true rfl⟩ (hl.1.trans hml.symm) (by rw [hb]; exact d_MO_bears_27) (Nat.le_of_ble_eq_true rfl) ⟨Nat.le_of_ble_eq_true rfl, Nat.le_of_ble_eq_true rfl⟩ hX hO ?_
    refine lv_lsub hx hb d_MO_bears_30 ?_
    subst hR
    refine W.widen (k := 0) (n := 0) (by decide) (by decide) ?_; exact xr_l hx hb hr hlocks d_MO_bears_31
  · rw [if_neg c1] at hR
    refine lv_aload_n hx hb d_MO_bears_4 rfl (lv_at hl 0 rfl) ?_
    refine lv_iload_n hx hb d_MO_bears_5 rfl (lv_at hl 1 rfl) ?_
    obtain ⟨cB6, hcB6, hoB6, hkB6⟩ := xw_recv (r := 15) (i := 0) hK hX (by decide) rfl rfl
    refine xc_f (rest := []) (x_invV (argsL := [.int v]) hx hb hown (hts _ w_730) (hts _ w_732) (hts _ w_27) (x_code (hts _ w_733)) ⟨by decide, by decide⟩ hcB6 hoB6 hkB6 rfl rfl rfl d_MO_bears_6) (c_MO_momentOf h0 σ v hv) (xs_cw h0 hW0 m_733) (hts _ w_38) ⟨rfl, rfl, Nat.le_of_ble_eq_true rfl, Nat.le_of_ble_eq_true rfl⟩ (hl.1.trans hml.symm) (by rw [hb]; exact d_MO_bears_6) (Nat.le_of_ble_eq_true rfl) ⟨Nat.le_of_ble_eq_true rfl, Nat.le_of_ble_eq_true rfl⟩ hX hO ?_
    refine lv_goto (tgt := 31) hx hb d_MO_bears_9 (by decide) ?_
    subst hR
    refine W.widen (k := 0) (n := 0) (by decide) (by decide) ?_; exact xr_l hx hb hr hlocks d_MO_bears_31

abbrev rm_MO_isBeyond : Room := { frames := 2, cells := 0, slots := 0, locals := 46 }
def S_MO_isBeyond (σ : XS) (v : Int32) (re : Int32) : Int32 := (if re = 0 then (if (lg_cmp (S_MO_bears σ v re) ((σ.1 21 0 v.toNatClampNeg).toInt64 * (σ.1 20 0 v.toNatClampNeg).toInt64)) ≤ 0 then (0 : Int32) else (1 : Int32)) else (if (lg_cmp (S_MO_bears σ v re) ((σ.1 22 0 v.toNatClampNeg).toInt64 * (σ.1 20 0 v.toNatClampNeg).toInt64)) ≤ 0 then (0 : Int32) else (1 : Int32)))
set_option maxHeartbeats 4000000 in
set_option maxRecDepth 100000 in
theorem c_MO_isBeyond {l : Launch} {s0 : State} {A0 : Array Value} {D : va_G} {dA : Nat → ClassId} (h0 : XS0 l s0 A0 D dA) (σ : XS) (v : Int32) (re : Int32) (hv : vp_in v 16) : XMet l y_MO_isBeyond [cw_MO_isBeyond] rm_MO_isBeyond (XP D dA s0 σ [.ref (xB s0 + XA 15 0), .int v, .int re]) (XQp xv_i (.inl (S_MO_isBeyond σ v re))) 0 0 (fun _ => False) := by
  refine XMet.ofW (cc := b_MO_isBeyond) (maxL := 3) (ret := (some .boolean)) (by decide) rfl ?_
  intro p e s m args below meth c s₁ Bd hml hvA
  obtain ⟨rfl, hX, hO⟩ := hvA
  have hx := Bd.exec
  have hb := Bd.bytes
  have hr := Bd.returns
  have hown : s.vm.findClass "LoadChecksModel" = some m.cls := findClass_of_methodNamed Bd.named
  have hlocks := Bd.notSynchronized
  have hnt : c.exceptionTable.isEmpty = true := Bd.noHandlers (atoms_spec (ws := [cw_MO_isBeyond]) Bd.pre _ List.mem_cons_self)
  have hW0 := hO.1
  have hts := xs_w (args := ([.ref (xB s0 + XA 15 0), .int v, .int re] : List Value).toArray) h0 hW0
  have hK := xs_K h0 hW0
  have hl := lv_entry ([.ref (xB s0 + XA 15 0), .int v, .int re]) (n := 3) (Nat.le_of_ble_eq_true rfl)
  rw [lg_entry_eq]
  generalize (lg_sl ([.ref (xB s0 + XA 15 0), .int v, .int re]) ++ List.replicate (3 - (lg_sl ([.ref (xB s0 + XA 15 0), .int v, .int re])).length) Slot.unset).toArray = ls at hl ⊢
  have hl : lv_has ls 3 [(0, .ref (xB s0 + XA 15 0)), (1, .int v), (2, .int re)] := hl
  generalize hR : S_MO_isBeyond σ v re = res
  unfold S_MO_isBeyond at hR
  refine lv_aload_n hx hb d_MO_isBeyond_0 rfl (lv_at hl 0 rfl) ?_
  refine lv_iload_n hx hb d_MO_isBeyond_1 rfl (lv_at hl 1 rfl) ?_
  refine lv_iload_n hx hb d_MO_isBeyond_2 rfl (lv_at hl 2 rfl) ?_
  obtain ⟨cB3, hcB3, hoB3, hkB3⟩ := xw_recv (r := 15) (i := 0) hK hX (by decide) rfl rfl
  refine xc_f (rest := []) (x_invV (argsL := [.int v, .int re]) hx hb hown (hts _ w_726) (hts _ w_728) (hts _ w_26) (x_code (hts _ w_729)) ⟨by decide, by decide⟩ hcB3 hoB3 hkB3 rfl rfl rfl d_MO_isBeyond_3) (c_MO_bears h0 σ v re hv) (xs_cw h0 hW0 m_729) (hts _ w_38) ⟨rfl, rfl, Nat.le_of_ble_eq_true rfl, Nat.le_of_ble_eq_true rfl⟩ (hl.1.trans hml.symm) (by rw [hb]; exact d_MO_isBeyond_3) (Nat.le_of_ble_eq_true rfl) ⟨Nat.le_of_ble_eq_true rfl, Nat.le_of_ble_eq_true rfl⟩ hX hO ?_
  refine lv_iload_n hx hb d_MO_isBeyond_6 rfl (lv_at hl 2 rfl) ?_
  refine lv_if_eq (tgt := 19) hx hb d_MO_isBeyond_7 (by decide) (fun c7 => ?_) (fun c7 => ?_)
  · rw [if_pos c7] at hR
    refine lv_aload_n hx hb d_MO_isBeyond_19 rfl (lv_at hl 0 rfl) ?_
    refine xw_get (C := R_MO) (T := F_MO) (N := 20) (r := 15) (i := 0) hx hb hts hi_MO hown hK hX (by decide) rfl rfl 9 (by decide) (hts _ w_604) rfl rfl d_MO_isBeyond_20 ?_
    refine lv_iload_n hx hb d_MO_isBeyond_23 rfl (lv_at hl 1 rfl) ?_
    refine xw_iald (r := 21) (i := 0) hx hb hK hX (by decide) 0 rfl rfl (j := v) hv d_MO_isBeyond_24 ?_
    refine lv_i2l hx hb d_MO_isBeyond_25 rfl ?_
    refine lv_aload_n hx hb d_MO_isBeyond_26 rfl (lv_at hl 0 rfl) ?_
    refine xw_get (C := R_MO) (T := F_MO) (N := 20) (r := 15) (i := 0) hx hb hts hi_MO hown hK hX (by decide) rfl rfl 8 (by decide) (hts _ w_603) rfl rfl d_MO_isBeyond_27 ?_
    refine lv_iload_n hx hb d_MO_isBeyond_30 rfl (lv_at hl 1 rfl) ?_
    refine xw_iald (r := 20) (i := 0) hx hb hK hX (by decide) 0 rfl rfl (j := v) hv d_MO_isBeyond_31 ?_
    refine lv_i2l hx hb d_MO_isBeyond_32 rfl ?_
    refine lv_lmul hx hb d_MO_isBeyond_33 ?_
    refine W.lcmp hx hb d_MO_isBeyond_34 ?_
    refine lv_if_le (tgt := 42) hx hb d_MO_isBeyond_35 (by decide) (fun c35 => ?_) (fun c35 => ?_)
    · rw [if_pos c35] at hR
      refine lv_iconst (v := 0) hx hb d_MO_isBeyond_42 (by decide) ?_
      subst hR
      refine W.widen (k := 0) (n := 0) (by decide) (by decide) ?_; exact xr_z hx hb hr hlocks (by rfl) d_MO_isBeyond_43
    · rw [if_neg c35] at hR
      refine lv_iconst (v := 1) hx hb d_MO_isBeyond_38 (by decide) ?_
      refine lv_goto (tgt := 43) hx hb d_MO_isBeyond_39 (by decide) ?_
      subst hR
      refine W.widen (k := 0) (n := 0) (by decide) (by decide) ?_; exact xr_z hx hb hr hlocks (by rfl) d_MO_isBeyond_43
  · rw [if_neg c7] at hR
    refine lv_aload_n hx hb d_MO_isBeyond_10 rfl (lv_at hl 0 rfl) ?_
    refine xw_get (C := R_MO) (T := F_MO) (N := 20) (r := 15) (i := 0) hx hb hts hi_MO hown hK hX (by decide) rfl rfl 10 (by decide) (hts _ w_605) rfl rfl d_MO_isBeyond_11 ?_
    refine lv_iload_n hx hb d_MO_isBeyond_14 rfl (lv_at hl 1 rfl) ?_
    refine xw_iald (r := 22) (i := 0) hx hb hK hX (by decide) 0 rfl rfl (j := v) hv d_MO_isBeyond_15 ?_
    refine lv_goto (tgt := 25) hx hb d_MO_isBeyond_16 (by decide) ?_
    refine lv_i2l hx hb d_MO_isBeyond_25 rfl ?_
    refine lv_aload_n hx hb d_MO_isBeyond_26 rfl (lv_at hl 0 rfl) ?_
    refine xw_get (C := R_MO) (T := F_MO) (N := 20) (r := 15) (i := 0) hx hb hts hi_MO hown hK hX (by decide) rfl rfl 8 (by decide) (hts _ w_603) rfl rfl d_MO_isBeyond_27 ?_
    refine lv_iload_n hx hb d_MO_isBeyond_30 rfl (lv_at hl 1 rfl) ?_
    refine xw_iald (r := 20) (i := 0) hx hb hK hX (by decide) 0 rfl rfl (j := v) hv d_MO_isBeyond_31 ?_
    refine lv_i2l hx hb d_MO_isBeyond_32 rfl ?_
    refine lv_lmul hx hb d_MO_isBeyond_33 ?_
    refine W.lcmp hx hb d_MO_isBeyond_34 ?_
    refine lv_if_le (tgt := 42) hx hb d_MO_isBeyond_35 (by decide) (fun c35 => ?_) (fun c35 => ?_)
    · rw [if_pos c35] at hR
      refine lv_iconst (v := 0) hx hb d_MO_isBeyond_42 (by decide) ?_
      subst hR
      refine W.widen (k := 0) (n := 0) (by decide) (by decide) ?_; exact xr_z hx hb hr hlocks (by rfl) d_MO_isBeyond_43
    · rw [if_neg c35] at hR
      refine lv_iconst (v := 1) hx hb d_MO_isBeyond_38 (by decide) ?_
      refine lv_goto (tgt := 43) hx hb d_MO_isBeyond_39 (by decide) ?_
      subst hR
      refine W.widen (k := 0) (n := 0) (by decide) (by decide) ?_; exact xr_z hx hb hr hlocks (by rfl) d_MO_isBeyond_43

abbrev rm_MO_missingOf : Room := { frames := 0, cells := 0, slots := 0, locals := 0 }
def S_MO_missingOf (σ : XS) (v : Int32) (ce : Int32) : Int32 := (if 0 ≤ ((σ.1 29 0 (((240 : Int32) * (σ.1 19 0 v.toNatClampNeg)) + ce).toNatClampNeg) - (σ.1 28 0 (((240 : Int32) * v) + ce).toNatClampNeg)) then ((σ.1 29 0 (((240 : Int32) * (σ.1 19 0 v.toNatClampNeg)) + ce).toNatClampNeg) - (σ.1 28 0 (((240 : Int32) * v) + ce).toNatClampNeg)) else (0 : Int32))
set_option maxHeartbeats 4000000 in
set_option maxRecDepth 100000 in
theorem c_MO_missingOf {l : Launch} {s0 : State} {A0 : Array Value} {D : va_G} {dA : Nat → ClassId} (h0 : XS0 l s0 A0 D dA) (σ : XS) (v : Int32) (ce : Int32) (hok : (∀ i, i < 16 → vp_in (σ.1 19 0 i) 6)) (hv : vp_in v 16) (hk : vp_in ce 240) : XMet l y_MO_missingOf [cw_MO_missingOf] rm_MO_missingOf (XP D dA s0 σ [.ref (xB s0 + XA 15 0), .int v, .int ce]) (XQp xv_i (.inl (S_MO_missingOf σ v ce))) 0 0 (fun _ => False) := by
  refine XMet.ofW (cc := b_MO_missingOf) (maxL := 4) (ret := (some .int)) (by decide) rfl ?_
  intro p e s m args below meth c s₁ Bd hml hvA
  obtain ⟨rfl, hX, hO⟩ := hvA
  have hx := Bd.exec
  have hb := Bd.bytes
  have hr := Bd.returns
  have hown : s.vm.findClass "LoadChecksModel" = some m.cls := findClass_of_methodNamed Bd.named
  have hlocks := Bd.notSynchronized
  have hnt : c.exceptionTable.isEmpty = true := Bd.noHandlers (atoms_spec (ws := [cw_MO_missingOf]) Bd.pre _ List.mem_cons_self)
  have hW0 := hO.1
  have hts := xs_w (args := ([.ref (xB s0 + XA 15 0), .int v, .int ce] : List Value).toArray) h0 hW0
  have hK := xs_K h0 hW0
  have hl := lv_entry ([.ref (xB s0 + XA 15 0), .int v, .int ce]) (n := 4) (Nat.le_of_ble_eq_true rfl)
  rw [lg_entry_eq]
  generalize (lg_sl ([.ref (xB s0 + XA 15 0), .int v, .int ce]) ++ List.replicate (4 - (lg_sl ([.ref (xB s0 + XA 15 0), .int v, .int ce])).length) Slot.unset).toArray = ls at hl ⊢
  have hl : lv_has ls 4 [(0, .ref (xB s0 + XA 15 0)), (1, .int v), (2, .int ce)] := hl
  generalize hR : S_MO_missingOf σ v ce = res
  unfold S_MO_missingOf at hR
  refine lv_aload_n hx hb d_MO_missingOf_0 rfl (lv_at hl 0 rfl) ?_
  refine xw_get (C := R_MO) (T := F_MO) (N := 20) (r := 15) (i := 0) hx hb hts hi_MO hown hK hX (by decide) rfl rfl 17 (by decide) (hts _ w_612) rfl rfl d_MO_missingOf_1 ?_
  refine lv_sipush (v := 240) hx hb d_MO_missingOf_4 (by decide) ?_
  refine lv_aload_n hx hb d_MO_missingOf_7 rfl (lv_at hl 0 rfl) ?_
  refine xw_get (C := R_MO) (T := F_MO) (N := 20) (r := 15) (i := 0) hx hb hts hi_MO hown hK hX (by decide) rfl rfl 7 (by decide) (hts _ w_602) rfl rfl d_MO_missingOf_8 ?_
  refine lv_iload_n hx hb d_MO_missingOf_11 rfl (lv_at hl 1 rfl) ?_
  refine xw_iald (r := 19) (i := 0) hx hb hK hX (by decide) 0 rfl rfl (j := v) hv d_MO_missingOf_12 ?_
  refine lv_imul hx hb d_MO_missingOf_13 ?_
  refine lv_iload_n hx hb d_MO_missingOf_14 rfl (lv_at hl 2 rfl) ?_
  refine lv_iadd hx hb d_MO_missingOf_15 ?_
  refine xw_iald (r := 29) (i := 0) hx hb hK hX (by decide) 0 rfl rfl (j := (((240 : Int32) * (σ.1 19 0 v.toNatClampNeg)) + ce)) (o_n2 (o_kind hok hv) hk) d_MO_missingOf_16 ?_
  refine lv_aload_n hx hb d_MO_missingOf_17 rfl (lv_at hl 0 rfl) ?_
  refine xw_get (C := R_MO) (T := F_MO) (N := 20) (r := 15) (i := 0) hx hb hts hi_MO hown hK hX (by decide) rfl rfl 16 (by decide) (hts _ w_611) rfl rfl d_MO_missingOf_18 ?_
  refine lv_sipush (v := 240) hx hb d_MO_missingOf_21 (by decide) ?_
  refine lv_iload_n hx hb d_MO_missingOf_24 rfl (lv_at hl 1 rfl) ?_
  refine lv_imul hx hb d_MO_missingOf_25 ?_
  refine lv_iload_n hx hb d_MO_missingOf_26 rfl (lv_at hl 2 rfl) ?_
  refine lv_iadd hx hb d_MO_missingOf_27 ?_
  refine xw_iald (r := 28) (i := 0) hx hb hK hX (by decide) 0 rfl rfl (j := (((240 : Int32) * v) + ce)) (o_c2 hv hk) d_MO_missingOf_28 ?_
  refine lv_isub hx hb d_MO_missingOf_29 ?_
  refine lv_istore_n (lv' := [(3, .int ((σ.1 29 0 (((240 : Int32) * (σ.1 19 0 v.toNatClampNeg)) + ce).toNatClampNeg) - (σ.1 28 0 (((240 : Int32) * v) + ce).toNatClampNeg))), (0, .ref (xB s0 + XA 15 0)), (1, .int v), (2, .int ce)]) hx hb d_MO_missingOf_30 rfl hl (by decide) rfl (fun ls hl => ?_)
  refine lv_iload_n hx hb d_MO_missingOf_31 rfl (lv_at hl 0 rfl) ?_
  refine lv_if_ge (tgt := 39) hx hb d_MO_missingOf_32 (by decide) (fun c32 => ?_) (fun c32 => ?_)
  · rw [if_pos c32] at hR
    refine lv_iload_n hx hb d_MO_missingOf_39 rfl (lv_at hl 0 rfl) ?_
    subst hR
    refine W.widen (k := 0) (n := 0) (by decide) (by decide) ?_; exact xr_i hx hb hr hlocks d_MO_missingOf_40
  · rw [if_neg c32] at hR
    refine lv_iconst (v := 0) hx hb d_MO_missingOf_35 (by decide) ?_
    refine lv_goto (tgt := 40) hx hb d_MO_missingOf_36 (by decide) ?_
    subst hR
    refine W.widen (k := 0) (n := 0) (by decide) (by decide) ?_; exact xr_i hx hb hr hlocks d_MO_missingOf_40

abbrev rm_MO_isNeeded : Room := { frames := 0, cells := 0, slots := 0, locals := 0 }
def L_MO_isNeeded : Nat → XS → Int32 → Int32 → Int32 → Int32 → Int32
  | 0, _, _, _, _, _ => default
  | n + 1, σ, v, it, em, x4 => (if (8 : Int32) ≤ x4 then em else (if em = 0 then (if (σ.1 29 0 ((((240 : Int32) * (σ.1 19 0 v.toNatClampNeg)) + ((30 : Int32) * x4)) + it).toNatClampNeg) ≤ 0 then (L_MO_isNeeded n σ v it (0 : Int32) (x4 + 1)) else (L_MO_isNeeded n σ v it (1 : Int32) (x4 + 1))) else (L_MO_isNeeded n σ v it (1 : Int32) (x4 + 1))))
def S_MO_isNeeded (σ : XS) (v : Int32) (it : Int32) : Int32 := (L_MO_isNeeded 9 σ v it (0 : Int32) (0 : Int32))
set_option maxHeartbeats 4000000 in
set_option maxRecDepth 100000 in
theorem l_MO_isNeeded {l : Launch} {s0 : State} {A0 : Array Value} {D : va_G} {dA : Nat → ClassId} (h0 : XS0 l s0 A0 D dA) {p : Program} {e : Env} {s : State} {m : MethodId} {args : Array Value} {below : List Frame} {meth : Method} {c : Code} (hx : p.tables.exec = Jvm.exec) (hb : c.code = b_MO_isNeeded) (hr : meth.sig.returnType = (some .boolean)) (hml : c.maxLocals = 5) (hown : s.vm.findClass "LoadChecksModel" = some m.cls) (hlocks : meth.locks = false) (hnt : c.exceptionTable.isEmpty = true) (hO : XO s0 s s.heap) :
    ∀ (n : Nat) (σ : XS) (v : Int32) (it : Int32) (em : Int32) (x4 : Int32) (k : Nat), x4 = nI k → k + n = 9 → k < 9 → (∀ i, i < 16 → vp_in (σ.1 19 0 i) 6) → vp_in v 16 → vp_in it 30 → nzb em → XWs D dA s0 σ s.heap → ∀ (ls : Array Slot), lv_has ls 5 [(0, .ref (xB s0 + XA 15 0)), (1, .int v), (2, .int it), (3, .int em), (4, .int x4)] → ∀ res, L_MO_isNeeded n σ v it em x4 = res →
    W p l e rm_MO_isNeeded s m args below meth c s.heap [] 0 0 (XMQ below (XQp xv_i (.inl res)) args s 0 0 (fun _ => False)) (F0 m 5 ls []) := by
  have hW0 := hO.1
  have hts := xs_w (args := args) h0 hW0
  have hK := xs_K h0 hW0
  intro n
  induction n with
  | zero =>
    intro σ v it em x4 k e1 h2 h3
    exact absurd h2 (by omega)
  | succ n ih =>
    intro σ v it em x4 k e_x4 hkn hkF hok hv hi hz hX ls hl res hR
    rw [L_MO_isNeeded] at hR
    refine lv_iload hx hb d_MO_isNeeded_5 (lv_at hl 4 rfl) ?_
    refine lv_bipush (v := 8) hx hb d_MO_isNeeded_7 (by decide) ?_
    refine lv_icmp_ge (tgt := 54) hx hb d_MO_isNeeded_9 (by decide) (fun c9 => ?_) (fun c9 => ?_)
    · rw [if_pos c9] at hR
      refine lv_iload_n hx hb d_MO_isNeeded_54 rfl (lv_at hl 3 rfl) ?_
      subst hR
      refine W.widen (k := 0) (n := 0) (by decide) (by decide) ?_; exact xr_z hx hb hr hlocks (by exact nz hz) d_MO_isNeeded_55
    · rw [if_neg c9] at hR
      have hq : k < 8 := x_klt (b := 8) rfl (by decide) (by omega) e_x4 c9
      have hkx : vp_in x4 8 := o_nI e_x4 hq (by decide)
      refine lv_iload_n hx hb d_MO_isNeeded_12 rfl (lv_at hl 3 rfl) ?_
      refine lv_if_ne (tgt := 42) hx hb d_MO_isNeeded_13 (by decide) (fun c13 => ?_) (fun c13 => ?_)
      · rw [if_neg c13] at hR
        refine lv_iconst (v := 1) hx hb d_MO_isNeeded_42 (by decide) ?_
        refine lv_goto (tgt := 47) hx hb d_MO_isNeeded_43 (by decide) ?_
        refine lv_istore_n (lv' := [(3, .int (1 : Int32)), (0, .ref (xB s0 + XA 15 0)), (1, .int v), (2, .int it), (4, .int x4)]) hx hb d_MO_isNeeded_47 rfl hl (by decide) rfl (fun ls hl => ?_)
        refine lv_iinc (v := (x4 + 1)) (lv' := [(4, .int (x4 + 1)), (3, .int (1 : Int32)), (0, .ref (xB s0 + XA 15 0)), (1, .int v), (2, .int it)]) hx hb d_MO_isNeeded_48 hl (k := 4) rfl rfl (by decide) rfl (fun ls hl => ?_)
        refine lv_goto (tgt := 5) hx hb d_MO_isNeeded_51 (by decide) ?_
        exact ih σ v it (1 : Int32) (x4 + 1) (k + 1) (by rw [e_x4]; exact nI_1 k) (by omega) (by omega)  hok hv hi (by first | exact Or.inl rfl | exact Or.inr rfl) hX ls (lv_sub hl [2, 3, 4, 1, 0] rfl) res hR
      · rw [if_pos c13] at hR
        refine lv_aload_n hx hb d_MO_isNeeded_16 rfl (lv_at hl 0 rfl) ?_
        refine xw_get (C := R_MO) (T := F_MO) (N := 20) (r := 15) (i := 0) hx hb hts hi_MO hown hK hX (by decide) rfl rfl 17 (by decide) (hts _ w_612) rfl rfl d_MO_isNeeded_17 ?_
        refine lv_sipush (v := 240) hx hb d_MO_isNeeded_20 (by decide) ?_
        refine lv_aload_n hx hb d_MO_isNeeded_23 rfl (lv_at hl 0 rfl) ?_
        refine xw_get (C := R_MO) (T := F_MO) (N := 20) (r := 15) (i := 0) hx hb hts hi_MO hown hK hX (by decide) rfl rfl 7 (by decide) (hts _ w_602) rfl rfl d_MO_isNeeded_24 ?_
        refine lv_iload_n hx hb d_MO_isNeeded_27 rfl (lv_at hl 1 rfl) ?_
        refine xw_iald (r := 19) (i := 0) hx hb hK hX (by decide) 0 rfl rfl (j := v) hv d_MO_isNeeded_28 ?_
        refine lv_imul hx hb d_MO_isNeeded_29 ?_
        refine lv_bipush (v := 30) hx hb d_MO_isNeeded_30 (by decide) ?_
        refine lv_iload hx hb d_MO_isNeeded_32 (lv_at hl 4 rfl) ?_
        refine lv_imul hx hb d_MO_isNeeded_34 ?_
        refine lv_iadd hx hb d_MO_isNeeded_35 ?_
        refine lv_iload_n hx hb d_MO_isNeeded_36 rfl (lv_at hl 2 rfl) ?_
        refine lv_iadd hx hb d_MO_isNeeded_37 ?_
        refine xw_iald (r := 29) (i := 0) hx hb hK hX (by decide) 0 rfl rfl (j := ((((240 : Int32) * (σ.1 19 0 v.toNatClampNeg)) + ((30 : Int32) * x4)) + it)) (o_n3 (o_kind hok hv) hkx hi) d_MO_isNeeded_38 ?_
        refine lv_if_le (tgt := 46) hx hb d_MO_isNeeded_39 (by decide) (fun c39 => ?_) (fun c39 => ?_)
        · rw [if_pos c39] at hR
          refine lv_iconst (v := 0) hx hb d_MO_isNeeded_46 (by decide) ?_
          refine lv_istore_n (lv' := [(3, .int (0 : Int32)), (0, .ref (xB s0 + XA 15 0)), (1, .int v), (2, .int it), (4, .int x4)]) hx hb d_MO_isNeeded_47 rfl hl (by decide) rfl (fun ls hl => ?_)
          refine lv_iinc (v := (x4 + 1)) (lv' := [(4, .int (x4 + 1)), (3, .int (0 : Int32)), (0, .ref (xB s0 + XA 15 0)), (1, .int v), (2, .int it)]) hx hb d_MO_isNeeded_48 hl (k := 4) rfl rfl (by decide) rfl (fun ls hl => ?_)
          refine lv_goto (tgt := 5) hx hb d_MO_isNeeded_51 (by decide) ?_
          exact ih σ v it (0 : Int32) (x4 + 1) (k + 1) (by rw [e_x4]; exact nI_1 k) (by omega) (by omega)  hok hv hi (by first | exact Or.inl rfl | exact Or.inr rfl) hX ls (lv_sub hl [2, 3, 4, 1, 0] rfl) res hR
        · rw [if_neg c39] at hR
          refine lv_iconst (v := 1) hx hb d_MO_isNeeded_42 (by decide) ?_
          refine lv_goto (tgt := 47) hx hb d_MO_isNeeded_43 (by decide) ?_
          refine lv_istore_n (lv' := [(3, .int (1 : Int32)), (0, .ref (xB s0 + XA 15 0)), (1, .int v), (2, .int it), (4, .int x4)]) hx hb d_MO_isNeeded_47 rfl hl (by decide) rfl (fun ls hl => ?_)
          refine lv_iinc (v := (x4 + 1)) (lv' := [(4, .int (x4 + 1)), (3, .int (1 : Int32)), (0, .ref (xB s0 + XA 15 0)), (1, .int v), (2, .int it)]) hx hb d_MO_isNeeded_48 hl (k := 4) rfl rfl (by decide) rfl (fun ls hl => ?_)
          refine lv_goto (tgt := 5) hx hb d_MO_isNeeded_51 (by decide) ?_
          exact ih σ v it (1 : Int32) (x4 + 1) (k + 1) (by rw [e_x4]; exact nI_1 k) (by omega) (by omega)  hok hv hi (by first | exact Or.inl rfl | exact Or.inr rfl) hX ls (lv_sub hl [2, 3, 4, 1, 0] rfl) res hR
set_option maxHeartbeats 4000000 in
set_option maxRecDepth 100000 in
theorem c_MO_isNeeded {l : Launch} {s0 : State} {A0 : Array Value} {D : va_G} {dA : Nat → ClassId} (h0 : XS0 l s0 A0 D dA) (σ : XS) (v : Int32) (it : Int32) (hok : (∀ i, i < 16 → vp_in (σ.1 19 0 i) 6)) (hv : vp_in v 16) (hi : vp_in it 30) : XMet l y_MO_isNeeded [cw_MO_isNeeded] rm_MO_isNeeded (XP D dA s0 σ [.ref (xB s0 + XA 15 0), .int v, .int it]) (XQp xv_i (.inl (S_MO_isNeeded σ v it))) 0 0 (fun _ => False) := by
  refine XMet.ofW (cc := b_MO_isNeeded) (maxL := 5) (ret := (some .boolean)) (by decide) rfl ?_
  intro p e s m args below meth c s₁ Bd hml hvA
  obtain ⟨rfl, hX, hO⟩ := hvA
  have hx := Bd.exec
  have hb := Bd.bytes
  have hr := Bd.returns
  have hown : s.vm.findClass "LoadChecksModel" = some m.cls := findClass_of_methodNamed Bd.named
  have hlocks := Bd.notSynchronized
  have hnt : c.exceptionTable.isEmpty = true := Bd.noHandlers (atoms_spec (ws := [cw_MO_isNeeded]) Bd.pre _ List.mem_cons_self)
  have hW0 := hO.1
  have hts := xs_w (args := ([.ref (xB s0 + XA 15 0), .int v, .int it] : List Value).toArray) h0 hW0
  have hK := xs_K h0 hW0
  have hl := lv_entry ([.ref (xB s0 + XA 15 0), .int v, .int it]) (n := 5) (Nat.le_of_ble_eq_true rfl)
  rw [lg_entry_eq]
  generalize (lg_sl ([.ref (xB s0 + XA 15 0), .int v, .int it]) ++ List.replicate (5 - (lg_sl ([.ref (xB s0 + XA 15 0), .int v, .int it])).length) Slot.unset).toArray = ls at hl ⊢
  have hl : lv_has ls 5 [(0, .ref (xB s0 + XA 15 0)), (1, .int v), (2, .int it)] := hl
  generalize hR : S_MO_isNeeded σ v it = res
  unfold S_MO_isNeeded at hR
  refine lv_iconst (v := 0) hx hb d_MO_isNeeded_0 (by decide) ?_
  refine lv_istore_n (lv' := [(3, .int (0 : Int32)), (0, .ref (xB s0 + XA 15 0)), (1, .int v), (2, .int it)]) hx hb d_MO_isNeeded_1 rfl hl (by decide) rfl (fun ls hl => ?_)
  refine lv_iconst (v := 0) hx hb d_MO_isNeeded_2 (by decide) ?_
  refine lv_istore (lv' := [(4, .int (0 : Int32)), (3, .int (0 : Int32)), (0, .ref (xB s0 + XA 15 0)), (1, .int v), (2, .int it)]) hx hb d_MO_isNeeded_3 hl (by decide) rfl (fun ls hl => ?_)
  exact l_MO_isNeeded h0 hx hb hr hml hown hlocks hnt hO 9 σ v it (0 : Int32) (0 : Int32) 0 nI_0.symm rfl (by decide)  hok hv hi (Or.inl rfl) hX ls (lv_sub hl [2, 3, 4, 1, 0] rfl) res hR
